/-- where a cell of the world is made -/
def plk (k : Nat) : Nat := if k < 14 then 73 + k else if k < 42 then k - 14 else if k = 42 then 52 else if k < 45 then k + 12 else if k < 53 then 57 + 2 * (k - 45) else if k < 61 then 58 + 2 * (k - 53) else if k < 85 then k - 33 else k - 32
def plv (i : Nat) : Nat := if i < 28 then i + 14 else if i < 52 then i + 33 else if i = 52 then 42 else if i < 55 then i + 32 else if i < 57 then i - 12 else if i < 73 then (if (i - 57) % 2 = 0 then 45 + (i - 57) / 2 else 53 + (i - 58) / 2) else i - 73
theorem pos_inv : ∀ i : Nat, i < 87 → plv i < 87 ∧ plk (plv i) = i := by decide +kernel
theorem inv_pos : ∀ k : Nat, k < 87 → plk k < 87 ∧ plv (plk k) = k := by decide +kernel
abbrev mkG (D : va_G) (cI cZ cR cM : ClassId) (h aS aB aK : Nat) : Gx := (D, cI, cZ, cR, cM, fun k => if k < 87 then h + plk k else if k = 87 then aS else if k = 88 then aB else aK)
theorem mkG_a (D : va_G) (cI cZ cR cM : ClassId) (h aS aB aK : Nat) {k : Nat} (hk : k < 87) : gA (mkG D cI cZ cR cM h aS aB aK) k = h + plk k := if_pos hk
theorem mkG_inj (D : va_G) (cI cZ cR cM : ClassId) (h aS aB aK : Nat) : Inj (mkG D cI cZ cR cM h aS aB aK) := by
  intro i j hi hj e
  rw [mkG_a _ _ _ _ _ _ _ _ _ hi, mkG_a _ _ _ _ _ _ _ _ _ hj] at e
  have e2 : plk i = plk j := by omega
  rw [← (inv_pos i hi).2, ← (inv_pos j hj).2, e2]
theorem mkG_Ax (D : va_G) (cI cZ cR cM : ClassId) (h aS aB aK : Nat) {q : Nat} (hq : Ax (mkG D cI cZ cR cM h aS aB aK) q) : h ≤ q := by
  obtain ⟨k, hk, rfl⟩ := hq
  rw [mkG_a _ _ _ _ _ _ _ _ _ hk]
  omega
theorem mkG_Bx (D : va_G) (cI cZ cR cM : ClassId) (h aS aB aK : Nat) : Bx (mkG D cI cZ cR cM h aS aB aK) h := by
  intro i hi
  refine ⟨plv i, (pos_inv i hi).1, ?_⟩
  rw [mkG_a _ _ _ _ _ _ _ _ _ (pos_inv i hi).1, (pos_inv i hi).2]
def M0 : Mem := fun k => if k = 2 then (fun j => if j < 8 then -1 else 0) else if 45 ≤ k ∧ k < 53 then (fun j => if j = 1 then -1 else 0) else fun _ => 0
theorem M0_0 {k : Nat} (h1 : k ≠ 2) (h2 : k < 45 ∨ 52 < k) : M0 k = fun _ => 0 := by
  unfold M0
  rw [if_neg h1, if_neg (by omega)]
theorem M0_r {r : Nat} (hr : r ≤ 7) : M0 (45 + r) = fun j => if j = 1 then -1 else 0 := by
  unfold M0
  rw [if_neg (by omega), if_pos (by omega)]
theorem Inv0 : Inv M0 := by
  have z : ∀ k, k ≠ 2 → k < 45 ∨ 52 < k → ∀ j, M0 k j = nI 0 := fun k h1 h2 j => by rw [M0_0 h1 h2]; rfl
  refine ⟨0, 0, 0, 0, 0, ⟨⟨z 18 (by omega) (by omega) 0, rfl, rfl, rfl, rfl, fun c hc => absurd hc (Nat.not_lt_zero c)⟩, ⟨by omega, z 4 (by omega) (by omega) 2, ⟨0, by omega, by omega, z 4 (by omega) (by omega) 1⟩, ⟨0, by decide, z 4 (by omega) (by omega) 4⟩, fun c hc => absurd hc (Nat.not_lt_zero c)⟩, ⟨fun _ => rfl, fun _ => z 0 (by omega) (by omega) 4⟩⟩, fun r hr => Or.inl ⟨?_, ?_⟩,
    ⟨z 0 (by omega) (by omega) 8, z 16 (by omega) (by omega) 1, by omega, rfl, fun i hi => absurd hi (Nat.not_lt_zero i)⟩, ⟨rfl, rfl⟩, ⟨z 0 (by omega) (by omega) 19, 0, by omega, by omega, z 40 (by omega) (by omega) 1, z 40 (by omega) (by omega) 2, fun i hi => absurd hi (Nat.not_lt_zero i)⟩,
    ⟨by omega, z 14 (by omega) (by omega) 9, fun k hk => Or.inl ⟨Nat.zero_testBit k, z 11 (by omega) (by omega) k⟩⟩, ⟨z 0 (by omega) (by omega) 24, z 43 (by omega) (by omega) 1, by omega, fun i hi => absurd hi (Nat.not_lt_zero i)⟩, fun h => by omega⟩
  · show (if r < 8 then (-1 : Int32) else 0) < 0
    rw [if_pos (by omega)]
    decide
  · rw [M0_r hr]
    rfl
theorem at_q {D : va_G} {cl : List vw_C} {a n : Nat} {cA : ClassId} {f g : Nat → Option Nat} {H : Heap} (h : va_at D cl (a, .inl (cA, n, .inr (.inr (.inr (.inr f))))) H) (e : ∀ j, j < n → f j = g j) : va_at D cl (a, .inl (cA, n, .inr (.inr (.inr (.inr g))))) H := by
  have h1 : H[a]? = some (arrV cA n (fun j => va_rf (f j))) := h
  show H[a]? = some (arrV cA n (fun j => va_rf (g j)))
  rw [h1]
  congr 1
  exact arrV_cong cA (fun j hj => by rw [e j hj])
theorem at_i {D : va_G} {cl : List vw_C} {a n : Nat} {cA : ClassId} {f g : Nat → Int32} {H : Heap} (h : va_at D cl (a, .inl (cA, n, .inl f)) H) (e : ∀ j, j < n → f j = g j) : va_at D cl (a, .inl (cA, n, .inl g)) H := by
  have h1 : H[a]? = some (arrV cA n (fun j => .int (f j))) := h
  show H[a]? = some (arrV cA n (fun j => .int (g j)))
  rw [h1]
  congr 1
  exact arrV_cong cA (fun j hj => by rw [e j hj])
abbrev F87 (G : Gx) (h : Nat) (F : Nat → va_E) : Nat → va_E := (mkX6 G h (updE (mkX5 G h (updE F 0 (.inr (5, [.null, .null, .null, .null, .null, .null, .null, .null, .null, .int 0, .int 0, .int 0]))) 1 0) 73 (.inr (6, [.null, .null, .null, .int 0, .int 0, .null, .null, .null, .int 0, .int 0, .int 0, .int 0, .int 0, .int 0, .int 0, .null, .null, .int 0, .null, .int 0, .null, .null, .null, .null, .int 0]))) 74 73)
set_option maxRecDepth 100000 in
theorem fe_0 (D : va_G) (cI cZ cR cM : ClassId) (h aS aB aK : Nat) (F : Nat → va_E) : F87 (mkG D cI cZ cR cM h aS aB aK) h F 73 = contE (mkG D cI cZ cR cM h aS aB aK) 0 (M0 0) := rfl
set_option maxRecDepth 100000 in
theorem fe_1 (D : va_G) (cI cZ cR cM : ClassId) (h aS aB aK : Nat) (F : Nat → va_E) : F87 (mkG D cI cZ cR cM h aS aB aK) h F 74 = contE (mkG D cI cZ cR cM h aS aB aK) 1 (M0 1) := rfl
set_option maxRecDepth 100000 in
theorem fe_3 (D : va_G) (cI cZ cR cM : ClassId) (h aS aB aK : Nat) (F : Nat → va_E) : F87 (mkG D cI cZ cR cM h aS aB aK) h F 76 = contE (mkG D cI cZ cR cM h aS aB aK) 3 (M0 3) := rfl
set_option maxRecDepth 100000 in
theorem fe_4 (D : va_G) (cI cZ cR cM : ClassId) (h aS aB aK : Nat) (F : Nat → va_E) : F87 (mkG D cI cZ cR cM h aS aB aK) h F 77 = contE (mkG D cI cZ cR cM h aS aB aK) 4 (M0 4) := rfl
set_option maxRecDepth 100000 in
theorem fe_5 (D : va_G) (cI cZ cR cM : ClassId) (h aS aB aK : Nat) (F : Nat → va_E) : F87 (mkG D cI cZ cR cM h aS aB aK) h F 78 = contE (mkG D cI cZ cR cM h aS aB aK) 5 (M0 5) := rfl
set_option maxRecDepth 100000 in
theorem fe_6 (D : va_G) (cI cZ cR cM : ClassId) (h aS aB aK : Nat) (F : Nat → va_E) : F87 (mkG D cI cZ cR cM h aS aB aK) h F 79 = contE (mkG D cI cZ cR cM h aS aB aK) 6 (M0 6) := rfl
set_option maxRecDepth 100000 in
theorem fe_7 (D : va_G) (cI cZ cR cM : ClassId) (h aS aB aK : Nat) (F : Nat → va_E) : F87 (mkG D cI cZ cR cM h aS aB aK) h F 80 = contE (mkG D cI cZ cR cM h aS aB aK) 7 (M0 7) := rfl
set_option maxRecDepth 100000 in
theorem fe_8 (D : va_G) (cI cZ cR cM : ClassId) (h aS aB aK : Nat) (F : Nat → va_E) : F87 (mkG D cI cZ cR cM h aS aB aK) h F 81 = contE (mkG D cI cZ cR cM h aS aB aK) 8 (M0 8) := rfl
set_option maxRecDepth 100000 in
theorem fe_9 (D : va_G) (cI cZ cR cM : ClassId) (h aS aB aK : Nat) (F : Nat → va_E) : F87 (mkG D cI cZ cR cM h aS aB aK) h F 82 = contE (mkG D cI cZ cR cM h aS aB aK) 9 (M0 9) := rfl
set_option maxRecDepth 100000 in
theorem fe_10 (D : va_G) (cI cZ cR cM : ClassId) (h aS aB aK : Nat) (F : Nat → va_E) : F87 (mkG D cI cZ cR cM h aS aB aK) h F 83 = contE (mkG D cI cZ cR cM h aS aB aK) 10 (M0 10) := rfl
set_option maxRecDepth 100000 in
theorem fe_11 (D : va_G) (cI cZ cR cM : ClassId) (h aS aB aK : Nat) (F : Nat → va_E) : F87 (mkG D cI cZ cR cM h aS aB aK) h F 84 = contE (mkG D cI cZ cR cM h aS aB aK) 11 (M0 11) := rfl
set_option maxRecDepth 100000 in
theorem fe_12 (D : va_G) (cI cZ cR cM : ClassId) (h aS aB aK : Nat) (F : Nat → va_E) : F87 (mkG D cI cZ cR cM h aS aB aK) h F 85 = contE (mkG D cI cZ cR cM h aS aB aK) 12 (M0 12) := rfl
set_option maxRecDepth 100000 in
theorem fe_13 (D : va_G) (cI cZ cR cM : ClassId) (h aS aB aK : Nat) (F : Nat → va_E) : F87 (mkG D cI cZ cR cM h aS aB aK) h F 86 = contE (mkG D cI cZ cR cM h aS aB aK) 13 (M0 13) := rfl
set_option maxRecDepth 100000 in
theorem fe_14 (D : va_G) (cI cZ cR cM : ClassId) (h aS aB aK : Nat) (F : Nat → va_E) : F87 (mkG D cI cZ cR cM h aS aB aK) h F 0 = contE (mkG D cI cZ cR cM h aS aB aK) 14 (M0 14) := rfl
set_option maxRecDepth 100000 in
theorem fe_16 (D : va_G) (cI cZ cR cM : ClassId) (h aS aB aK : Nat) (F : Nat → va_E) : F87 (mkG D cI cZ cR cM h aS aB aK) h F 2 = contE (mkG D cI cZ cR cM h aS aB aK) 16 (M0 16) := rfl
set_option maxRecDepth 100000 in
theorem fe_17 (D : va_G) (cI cZ cR cM : ClassId) (h aS aB aK : Nat) (F : Nat → va_E) : F87 (mkG D cI cZ cR cM h aS aB aK) h F 3 = contE (mkG D cI cZ cR cM h aS aB aK) 17 (M0 17) := rfl
set_option maxRecDepth 100000 in
theorem fe_18 (D : va_G) (cI cZ cR cM : ClassId) (h aS aB aK : Nat) (F : Nat → va_E) : F87 (mkG D cI cZ cR cM h aS aB aK) h F 4 = contE (mkG D cI cZ cR cM h aS aB aK) 18 (M0 18) := rfl
set_option maxRecDepth 100000 in
theorem fe_19 (D : va_G) (cI cZ cR cM : ClassId) (h aS aB aK : Nat) (F : Nat → va_E) : F87 (mkG D cI cZ cR cM h aS aB aK) h F 5 = contE (mkG D cI cZ cR cM h aS aB aK) 19 (M0 19) := rfl
set_option maxRecDepth 100000 in
theorem fe_20 (D : va_G) (cI cZ cR cM : ClassId) (h aS aB aK : Nat) (F : Nat → va_E) : F87 (mkG D cI cZ cR cM h aS aB aK) h F 6 = contE (mkG D cI cZ cR cM h aS aB aK) 20 (M0 20) := rfl
set_option maxRecDepth 100000 in
theorem fe_21 (D : va_G) (cI cZ cR cM : ClassId) (h aS aB aK : Nat) (F : Nat → va_E) : F87 (mkG D cI cZ cR cM h aS aB aK) h F 7 = contE (mkG D cI cZ cR cM h aS aB aK) 21 (M0 21) := rfl
set_option maxRecDepth 100000 in
theorem fe_22 (D : va_G) (cI cZ cR cM : ClassId) (h aS aB aK : Nat) (F : Nat → va_E) : F87 (mkG D cI cZ cR cM h aS aB aK) h F 8 = contE (mkG D cI cZ cR cM h aS aB aK) 22 (M0 22) := rfl
set_option maxRecDepth 100000 in
theorem fe_23 (D : va_G) (cI cZ cR cM : ClassId) (h aS aB aK : Nat) (F : Nat → va_E) : F87 (mkG D cI cZ cR cM h aS aB aK) h F 9 = contE (mkG D cI cZ cR cM h aS aB aK) 23 (M0 23) := rfl
set_option maxRecDepth 100000 in
theorem fe_24 (D : va_G) (cI cZ cR cM : ClassId) (h aS aB aK : Nat) (F : Nat → va_E) : F87 (mkG D cI cZ cR cM h aS aB aK) h F 10 = contE (mkG D cI cZ cR cM h aS aB aK) 24 (M0 24) := rfl
set_option maxRecDepth 100000 in
theorem fe_25 (D : va_G) (cI cZ cR cM : ClassId) (h aS aB aK : Nat) (F : Nat → va_E) : F87 (mkG D cI cZ cR cM h aS aB aK) h F 11 = contE (mkG D cI cZ cR cM h aS aB aK) 25 (M0 25) := rfl
set_option maxRecDepth 100000 in
theorem fe_26 (D : va_G) (cI cZ cR cM : ClassId) (h aS aB aK : Nat) (F : Nat → va_E) : F87 (mkG D cI cZ cR cM h aS aB aK) h F 12 = contE (mkG D cI cZ cR cM h aS aB aK) 26 (M0 26) := rfl
set_option maxRecDepth 100000 in
theorem fe_27 (D : va_G) (cI cZ cR cM : ClassId) (h aS aB aK : Nat) (F : Nat → va_E) : F87 (mkG D cI cZ cR cM h aS aB aK) h F 13 = contE (mkG D cI cZ cR cM h aS aB aK) 27 (M0 27) := rfl
set_option maxRecDepth 100000 in
theorem fe_28 (D : va_G) (cI cZ cR cM : ClassId) (h aS aB aK : Nat) (F : Nat → va_E) : F87 (mkG D cI cZ cR cM h aS aB aK) h F 14 = contE (mkG D cI cZ cR cM h aS aB aK) 28 (M0 28) := rfl
set_option maxRecDepth 100000 in
theorem fe_29 (D : va_G) (cI cZ cR cM : ClassId) (h aS aB aK : Nat) (F : Nat → va_E) : F87 (mkG D cI cZ cR cM h aS aB aK) h F 15 = contE (mkG D cI cZ cR cM h aS aB aK) 29 (M0 29) := rfl
set_option maxRecDepth 100000 in
theorem fe_30 (D : va_G) (cI cZ cR cM : ClassId) (h aS aB aK : Nat) (F : Nat → va_E) : F87 (mkG D cI cZ cR cM h aS aB aK) h F 16 = contE (mkG D cI cZ cR cM h aS aB aK) 30 (M0 30) := rfl
set_option maxRecDepth 100000 in
theorem fe_31 (D : va_G) (cI cZ cR cM : ClassId) (h aS aB aK : Nat) (F : Nat → va_E) : F87 (mkG D cI cZ cR cM h aS aB aK) h F 17 = contE (mkG D cI cZ cR cM h aS aB aK) 31 (M0 31) := rfl
set_option maxRecDepth 100000 in
theorem fe_32 (D : va_G) (cI cZ cR cM : ClassId) (h aS aB aK : Nat) (F : Nat → va_E) : F87 (mkG D cI cZ cR cM h aS aB aK) h F 18 = contE (mkG D cI cZ cR cM h aS aB aK) 32 (M0 32) := rfl
set_option maxRecDepth 100000 in
theorem fe_33 (D : va_G) (cI cZ cR cM : ClassId) (h aS aB aK : Nat) (F : Nat → va_E) : F87 (mkG D cI cZ cR cM h aS aB aK) h F 19 = contE (mkG D cI cZ cR cM h aS aB aK) 33 (M0 33) := rfl
set_option maxRecDepth 100000 in
theorem fe_34 (D : va_G) (cI cZ cR cM : ClassId) (h aS aB aK : Nat) (F : Nat → va_E) : F87 (mkG D cI cZ cR cM h aS aB aK) h F 20 = contE (mkG D cI cZ cR cM h aS aB aK) 34 (M0 34) := rfl
set_option maxRecDepth 100000 in
theorem fe_35 (D : va_G) (cI cZ cR cM : ClassId) (h aS aB aK : Nat) (F : Nat → va_E) : F87 (mkG D cI cZ cR cM h aS aB aK) h F 21 = contE (mkG D cI cZ cR cM h aS aB aK) 35 (M0 35) := rfl
set_option maxRecDepth 100000 in
theorem fe_36 (D : va_G) (cI cZ cR cM : ClassId) (h aS aB aK : Nat) (F : Nat → va_E) : F87 (mkG D cI cZ cR cM h aS aB aK) h F 22 = contE (mkG D cI cZ cR cM h aS aB aK) 36 (M0 36) := rfl
set_option maxRecDepth 100000 in
theorem fe_37 (D : va_G) (cI cZ cR cM : ClassId) (h aS aB aK : Nat) (F : Nat → va_E) : F87 (mkG D cI cZ cR cM h aS aB aK) h F 23 = contE (mkG D cI cZ cR cM h aS aB aK) 37 (M0 37) := rfl
set_option maxRecDepth 100000 in
theorem fe_38 (D : va_G) (cI cZ cR cM : ClassId) (h aS aB aK : Nat) (F : Nat → va_E) : F87 (mkG D cI cZ cR cM h aS aB aK) h F 24 = contE (mkG D cI cZ cR cM h aS aB aK) 38 (M0 38) := rfl
set_option maxRecDepth 100000 in
theorem fe_39 (D : va_G) (cI cZ cR cM : ClassId) (h aS aB aK : Nat) (F : Nat → va_E) : F87 (mkG D cI cZ cR cM h aS aB aK) h F 25 = contE (mkG D cI cZ cR cM h aS aB aK) 39 (M0 39) := rfl
set_option maxRecDepth 100000 in
theorem fe_40 (D : va_G) (cI cZ cR cM : ClassId) (h aS aB aK : Nat) (F : Nat → va_E) : F87 (mkG D cI cZ cR cM h aS aB aK) h F 26 = contE (mkG D cI cZ cR cM h aS aB aK) 40 (M0 40) := rfl
set_option maxRecDepth 100000 in
theorem fe_43 (D : va_G) (cI cZ cR cM : ClassId) (h aS aB aK : Nat) (F : Nat → va_E) : F87 (mkG D cI cZ cR cM h aS aB aK) h F 55 = contE (mkG D cI cZ cR cM h aS aB aK) 43 (M0 43) := rfl
set_option maxRecDepth 100000 in
theorem fe_44 (D : va_G) (cI cZ cR cM : ClassId) (h aS aB aK : Nat) (F : Nat → va_E) : F87 (mkG D cI cZ cR cM h aS aB aK) h F 56 = contE (mkG D cI cZ cR cM h aS aB aK) 44 (M0 44) := rfl
set_option maxRecDepth 100000 in
theorem fe_45 (D : va_G) (cI cZ cR cM : ClassId) (h aS aB aK : Nat) (F : Nat → va_E) : F87 (mkG D cI cZ cR cM h aS aB aK) h F 57 = contE (mkG D cI cZ cR cM h aS aB aK) 45 (M0 45) := rfl
set_option maxRecDepth 100000 in
theorem fe_46 (D : va_G) (cI cZ cR cM : ClassId) (h aS aB aK : Nat) (F : Nat → va_E) : F87 (mkG D cI cZ cR cM h aS aB aK) h F 59 = contE (mkG D cI cZ cR cM h aS aB aK) 46 (M0 46) := rfl
set_option maxRecDepth 100000 in
theorem fe_47 (D : va_G) (cI cZ cR cM : ClassId) (h aS aB aK : Nat) (F : Nat → va_E) : F87 (mkG D cI cZ cR cM h aS aB aK) h F 61 = contE (mkG D cI cZ cR cM h aS aB aK) 47 (M0 47) := rfl
set_option maxRecDepth 100000 in
theorem fe_48 (D : va_G) (cI cZ cR cM : ClassId) (h aS aB aK : Nat) (F : Nat → va_E) : F87 (mkG D cI cZ cR cM h aS aB aK) h F 63 = contE (mkG D cI cZ cR cM h aS aB aK) 48 (M0 48) := rfl
set_option maxRecDepth 100000 in
theorem fe_49 (D : va_G) (cI cZ cR cM : ClassId) (h aS aB aK : Nat) (F : Nat → va_E) : F87 (mkG D cI cZ cR cM h aS aB aK) h F 65 = contE (mkG D cI cZ cR cM h aS aB aK) 49 (M0 49) := rfl
set_option maxRecDepth 100000 in
theorem fe_50 (D : va_G) (cI cZ cR cM : ClassId) (h aS aB aK : Nat) (F : Nat → va_E) : F87 (mkG D cI cZ cR cM h aS aB aK) h F 67 = contE (mkG D cI cZ cR cM h aS aB aK) 50 (M0 50) := rfl
set_option maxRecDepth 100000 in
theorem fe_51 (D : va_G) (cI cZ cR cM : ClassId) (h aS aB aK : Nat) (F : Nat → va_E) : F87 (mkG D cI cZ cR cM h aS aB aK) h F 69 = contE (mkG D cI cZ cR cM h aS aB aK) 51 (M0 51) := rfl
set_option maxRecDepth 100000 in
theorem fe_52 (D : va_G) (cI cZ cR cM : ClassId) (h aS aB aK : Nat) (F : Nat → va_E) : F87 (mkG D cI cZ cR cM h aS aB aK) h F 71 = contE (mkG D cI cZ cR cM h aS aB aK) 52 (M0 52) := rfl
set_option maxRecDepth 100000 in
theorem fe_53 (D : va_G) (cI cZ cR cM : ClassId) (h aS aB aK : Nat) (F : Nat → va_E) : F87 (mkG D cI cZ cR cM h aS aB aK) h F 58 = contE (mkG D cI cZ cR cM h aS aB aK) 53 (M0 53) := rfl
set_option maxRecDepth 100000 in
theorem fe_54 (D : va_G) (cI cZ cR cM : ClassId) (h aS aB aK : Nat) (F : Nat → va_E) : F87 (mkG D cI cZ cR cM h aS aB aK) h F 60 = contE (mkG D cI cZ cR cM h aS aB aK) 54 (M0 54) := rfl
set_option maxRecDepth 100000 in
theorem fe_55 (D : va_G) (cI cZ cR cM : ClassId) (h aS aB aK : Nat) (F : Nat → va_E) : F87 (mkG D cI cZ cR cM h aS aB aK) h F 62 = contE (mkG D cI cZ cR cM h aS aB aK) 55 (M0 55) := rfl
set_option maxRecDepth 100000 in
theorem fe_56 (D : va_G) (cI cZ cR cM : ClassId) (h aS aB aK : Nat) (F : Nat → va_E) : F87 (mkG D cI cZ cR cM h aS aB aK) h F 64 = contE (mkG D cI cZ cR cM h aS aB aK) 56 (M0 56) := rfl
set_option maxRecDepth 100000 in
theorem fe_57 (D : va_G) (cI cZ cR cM : ClassId) (h aS aB aK : Nat) (F : Nat → va_E) : F87 (mkG D cI cZ cR cM h aS aB aK) h F 66 = contE (mkG D cI cZ cR cM h aS aB aK) 57 (M0 57) := rfl
set_option maxRecDepth 100000 in
theorem fe_58 (D : va_G) (cI cZ cR cM : ClassId) (h aS aB aK : Nat) (F : Nat → va_E) : F87 (mkG D cI cZ cR cM h aS aB aK) h F 68 = contE (mkG D cI cZ cR cM h aS aB aK) 58 (M0 58) := rfl
set_option maxRecDepth 100000 in
theorem fe_59 (D : va_G) (cI cZ cR cM : ClassId) (h aS aB aK : Nat) (F : Nat → va_E) : F87 (mkG D cI cZ cR cM h aS aB aK) h F 70 = contE (mkG D cI cZ cR cM h aS aB aK) 59 (M0 59) := rfl
set_option maxRecDepth 100000 in
theorem fe_60 (D : va_G) (cI cZ cR cM : ClassId) (h aS aB aK : Nat) (F : Nat → va_E) : F87 (mkG D cI cZ cR cM h aS aB aK) h F 72 = contE (mkG D cI cZ cR cM h aS aB aK) 60 (M0 60) := rfl
set_option maxRecDepth 100000 in
theorem fe_61 (D : va_G) (cI cZ cR cM : ClassId) (h aS aB aK : Nat) (F : Nat → va_E) : F87 (mkG D cI cZ cR cM h aS aB aK) h F 28 = contE (mkG D cI cZ cR cM h aS aB aK) 61 (M0 61) := rfl
set_option maxRecDepth 100000 in
theorem fe_62 (D : va_G) (cI cZ cR cM : ClassId) (h aS aB aK : Nat) (F : Nat → va_E) : F87 (mkG D cI cZ cR cM h aS aB aK) h F 29 = contE (mkG D cI cZ cR cM h aS aB aK) 62 (M0 62) := rfl
set_option maxRecDepth 100000 in
theorem fe_63 (D : va_G) (cI cZ cR cM : ClassId) (h aS aB aK : Nat) (F : Nat → va_E) : F87 (mkG D cI cZ cR cM h aS aB aK) h F 30 = contE (mkG D cI cZ cR cM h aS aB aK) 63 (M0 63) := rfl
set_option maxRecDepth 100000 in
theorem fe_64 (D : va_G) (cI cZ cR cM : ClassId) (h aS aB aK : Nat) (F : Nat → va_E) : F87 (mkG D cI cZ cR cM h aS aB aK) h F 31 = contE (mkG D cI cZ cR cM h aS aB aK) 64 (M0 64) := rfl
set_option maxRecDepth 100000 in
theorem fe_65 (D : va_G) (cI cZ cR cM : ClassId) (h aS aB aK : Nat) (F : Nat → va_E) : F87 (mkG D cI cZ cR cM h aS aB aK) h F 32 = contE (mkG D cI cZ cR cM h aS aB aK) 65 (M0 65) := rfl
set_option maxRecDepth 100000 in
theorem fe_66 (D : va_G) (cI cZ cR cM : ClassId) (h aS aB aK : Nat) (F : Nat → va_E) : F87 (mkG D cI cZ cR cM h aS aB aK) h F 33 = contE (mkG D cI cZ cR cM h aS aB aK) 66 (M0 66) := rfl
set_option maxRecDepth 100000 in
theorem fe_67 (D : va_G) (cI cZ cR cM : ClassId) (h aS aB aK : Nat) (F : Nat → va_E) : F87 (mkG D cI cZ cR cM h aS aB aK) h F 34 = contE (mkG D cI cZ cR cM h aS aB aK) 67 (M0 67) := rfl
set_option maxRecDepth 100000 in
theorem fe_68 (D : va_G) (cI cZ cR cM : ClassId) (h aS aB aK : Nat) (F : Nat → va_E) : F87 (mkG D cI cZ cR cM h aS aB aK) h F 35 = contE (mkG D cI cZ cR cM h aS aB aK) 68 (M0 68) := rfl
set_option maxRecDepth 100000 in
theorem fe_69 (D : va_G) (cI cZ cR cM : ClassId) (h aS aB aK : Nat) (F : Nat → va_E) : F87 (mkG D cI cZ cR cM h aS aB aK) h F 36 = contE (mkG D cI cZ cR cM h aS aB aK) 69 (M0 69) := rfl
set_option maxRecDepth 100000 in
theorem fe_70 (D : va_G) (cI cZ cR cM : ClassId) (h aS aB aK : Nat) (F : Nat → va_E) : F87 (mkG D cI cZ cR cM h aS aB aK) h F 37 = contE (mkG D cI cZ cR cM h aS aB aK) 70 (M0 70) := rfl
set_option maxRecDepth 100000 in
theorem fe_71 (D : va_G) (cI cZ cR cM : ClassId) (h aS aB aK : Nat) (F : Nat → va_E) : F87 (mkG D cI cZ cR cM h aS aB aK) h F 38 = contE (mkG D cI cZ cR cM h aS aB aK) 71 (M0 71) := rfl
set_option maxRecDepth 100000 in
theorem fe_72 (D : va_G) (cI cZ cR cM : ClassId) (h aS aB aK : Nat) (F : Nat → va_E) : F87 (mkG D cI cZ cR cM h aS aB aK) h F 39 = contE (mkG D cI cZ cR cM h aS aB aK) 72 (M0 72) := rfl
set_option maxRecDepth 100000 in
theorem fe_73 (D : va_G) (cI cZ cR cM : ClassId) (h aS aB aK : Nat) (F : Nat → va_E) : F87 (mkG D cI cZ cR cM h aS aB aK) h F 40 = contE (mkG D cI cZ cR cM h aS aB aK) 73 (M0 73) := rfl
set_option maxRecDepth 100000 in
theorem fe_74 (D : va_G) (cI cZ cR cM : ClassId) (h aS aB aK : Nat) (F : Nat → va_E) : F87 (mkG D cI cZ cR cM h aS aB aK) h F 41 = contE (mkG D cI cZ cR cM h aS aB aK) 74 (M0 74) := rfl
set_option maxRecDepth 100000 in
theorem fe_75 (D : va_G) (cI cZ cR cM : ClassId) (h aS aB aK : Nat) (F : Nat → va_E) : F87 (mkG D cI cZ cR cM h aS aB aK) h F 42 = contE (mkG D cI cZ cR cM h aS aB aK) 75 (M0 75) := rfl
set_option maxRecDepth 100000 in
theorem fe_76 (D : va_G) (cI cZ cR cM : ClassId) (h aS aB aK : Nat) (F : Nat → va_E) : F87 (mkG D cI cZ cR cM h aS aB aK) h F 43 = contE (mkG D cI cZ cR cM h aS aB aK) 76 (M0 76) := rfl
set_option maxRecDepth 100000 in
theorem fe_77 (D : va_G) (cI cZ cR cM : ClassId) (h aS aB aK : Nat) (F : Nat → va_E) : F87 (mkG D cI cZ cR cM h aS aB aK) h F 44 = contE (mkG D cI cZ cR cM h aS aB aK) 77 (M0 77) := rfl
set_option maxRecDepth 100000 in
theorem fe_78 (D : va_G) (cI cZ cR cM : ClassId) (h aS aB aK : Nat) (F : Nat → va_E) : F87 (mkG D cI cZ cR cM h aS aB aK) h F 45 = contE (mkG D cI cZ cR cM h aS aB aK) 78 (M0 78) := rfl
set_option maxRecDepth 100000 in
theorem fe_79 (D : va_G) (cI cZ cR cM : ClassId) (h aS aB aK : Nat) (F : Nat → va_E) : F87 (mkG D cI cZ cR cM h aS aB aK) h F 46 = contE (mkG D cI cZ cR cM h aS aB aK) 79 (M0 79) := rfl
set_option maxRecDepth 100000 in
theorem fe_80 (D : va_G) (cI cZ cR cM : ClassId) (h aS aB aK : Nat) (F : Nat → va_E) : F87 (mkG D cI cZ cR cM h aS aB aK) h F 47 = contE (mkG D cI cZ cR cM h aS aB aK) 80 (M0 80) := rfl
set_option maxRecDepth 100000 in
theorem fe_81 (D : va_G) (cI cZ cR cM : ClassId) (h aS aB aK : Nat) (F : Nat → va_E) : F87 (mkG D cI cZ cR cM h aS aB aK) h F 48 = contE (mkG D cI cZ cR cM h aS aB aK) 81 (M0 81) := rfl
set_option maxRecDepth 100000 in
theorem fe_82 (D : va_G) (cI cZ cR cM : ClassId) (h aS aB aK : Nat) (F : Nat → va_E) : F87 (mkG D cI cZ cR cM h aS aB aK) h F 49 = contE (mkG D cI cZ cR cM h aS aB aK) 82 (M0 82) := rfl
set_option maxRecDepth 100000 in
theorem fe_83 (D : va_G) (cI cZ cR cM : ClassId) (h aS aB aK : Nat) (F : Nat → va_E) : F87 (mkG D cI cZ cR cM h aS aB aK) h F 50 = contE (mkG D cI cZ cR cM h aS aB aK) 83 (M0 83) := rfl
set_option maxRecDepth 100000 in
theorem fe_84 (D : va_G) (cI cZ cR cM : ClassId) (h aS aB aK : Nat) (F : Nat → va_E) : F87 (mkG D cI cZ cR cM h aS aB aK) h F 51 = contE (mkG D cI cZ cR cM h aS aB aK) 84 (M0 84) := rfl
set_option maxRecDepth 100000 in
theorem fe_85 (D : va_G) (cI cZ cR cM : ClassId) (h aS aB aK : Nat) (F : Nat → va_E) : F87 (mkG D cI cZ cR cM h aS aB aK) h F 53 = contE (mkG D cI cZ cR cM h aS aB aK) 85 (M0 85) := rfl
set_option maxRecDepth 100000 in
theorem fe_86 (D : va_G) (cI cZ cR cM : ClassId) (h aS aB aK : Nat) (F : Nat → va_E) : F87 (mkG D cI cZ cR cM h aS aB aK) h F 54 = contE (mkG D cI cZ cR cM h aS aB aK) 86 (M0 86) := rfl
