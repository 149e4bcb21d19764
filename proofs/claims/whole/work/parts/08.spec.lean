theorem nI_decp (j : Nat) : nI (j + 1) + Int32.ofInt (-1) = nI j := pk_m1 j
theorem nI_incN (j n : Nat) : nI j + Int32.ofInt (n : Int) = nI (j + n) := by
  rw [← nI_add]
  congr 1
section SW
variable {κ : Kx} {cc : ByteArray} {own : String} {nL : Nat} {ret : Option FieldType} {R : Room} {Q : State → Prop} {M : Mem} {pc : Nat} {f : List (Option Value)} {st : List Value}
theorem r_tsw {dflt : Int} {lo hi tgt : Nat} {offs : Array Int} {len : Nat} {x : Int32} (hd : decode cc pc = .ok (.tableswitch dflt (lo : Int) (hi : Int) offs, len)) (ht : (pc : Int) + dflt = (tgt : Int)) (hout : (∀ q, lo ≤ q → q ≤ hi → q < 2 ^ 31 → ¬ x = nI q) → V κ cc own nL ret R Q M tgt f st) (hin : ∀ q, lo ≤ q → q ≤ hi → x = nI q → V κ cc own nL ret R Q M pc f (.int (nI q) :: st)) : V κ cc own nL ret R Q M pc f (.int x :: st) := by
  by_cases h : x.toInt < lo ∨ hi < x.toInt
  · refine r_tableOut hd h ht (hout ?_)
    intro q h1 h2 h3 e
    rw [e, nI_toInt h3] at h
    omega
  · have h2 : x = nI x.toInt.toNat := by
      have hb := fb_rng x
      apply Int32.toInt_inj.mp
      rw [nI_toInt (by omega)]
      omega
    rw [h2]
    exact hin x.toInt.toNat (by omega) (by omega) h2
theorem t_if_eq {x : Int32} {a b : Int32} {off : Int} {tgt J : Nat} (hd : decode cc pc = .ok (.ifCond .eq off, 3)) (ht : (pc : Int) + off = (tgt : Int)) (pT : V κ cc own nL ret R Q M J f (.int a :: st) → V κ cc own nL ret R Q M tgt f st) (pF : V κ cc own nL ret R Q M J f (.int b :: st) → V κ cc own nL ret R Q M (pc + 3) f st) (k : V κ cc own nL ret R Q M J f (.int (if x = 0 then a else b) :: st)) : V κ cc own nL ret R Q M pc f (.int x :: st) := r_if_eq hd ht (fun h => pT (by rw [if_pos h] at k; exact k)) (fun h => pF (by rw [if_neg h] at k; exact k))
theorem t_icmp_eq {x y : Int32} {a b : Int32} {off : Int} {tgt J : Nat} (hd : decode cc pc = .ok (.if_icmp .eq off, 3)) (ht : (pc : Int) + off = (tgt : Int)) (pT : V κ cc own nL ret R Q M J f (.int a :: st) → V κ cc own nL ret R Q M tgt f st) (pF : V κ cc own nL ret R Q M J f (.int b :: st) → V κ cc own nL ret R Q M (pc + 3) f st) (k : V κ cc own nL ret R Q M J f (.int (if x = y then a else b) :: st)) : V κ cc own nL ret R Q M pc f (.int y :: .int x :: st) := r_icmp_eq hd ht (fun h => pT (by rw [if_pos h] at k; exact k)) (fun h => pF (by rw [if_neg h] at k; exact k))
theorem t_if_ne {x : Int32} {a b : Int32} {off : Int} {tgt J : Nat} (hd : decode cc pc = .ok (.ifCond .ne off, 3)) (ht : (pc : Int) + off = (tgt : Int)) (pT : V κ cc own nL ret R Q M J f (.int a :: st) → V κ cc own nL ret R Q M tgt f st) (pF : V κ cc own nL ret R Q M J f (.int b :: st) → V κ cc own nL ret R Q M (pc + 3) f st) (k : V κ cc own nL ret R Q M J f (.int (if x = 0 then b else a) :: st)) : V κ cc own nL ret R Q M pc f (.int x :: st) := r_if_ne hd ht (fun h => pT (by rw [if_neg h] at k; exact k)) (fun h => pF (by rw [if_pos h] at k; exact k))
theorem t_icmp_ne {x y : Int32} {a b : Int32} {off : Int} {tgt J : Nat} (hd : decode cc pc = .ok (.if_icmp .ne off, 3)) (ht : (pc : Int) + off = (tgt : Int)) (pT : V κ cc own nL ret R Q M J f (.int a :: st) → V κ cc own nL ret R Q M tgt f st) (pF : V κ cc own nL ret R Q M J f (.int b :: st) → V κ cc own nL ret R Q M (pc + 3) f st) (k : V κ cc own nL ret R Q M J f (.int (if x = y then b else a) :: st)) : V κ cc own nL ret R Q M pc f (.int y :: .int x :: st) := r_icmp_ne hd ht (fun h => pT (by rw [if_neg h] at k; exact k)) (fun h => pF (by rw [if_pos h] at k; exact k))
theorem t_if_lt {x : Int32} {a b : Int32} {off : Int} {tgt J : Nat} (hd : decode cc pc = .ok (.ifCond .lt off, 3)) (ht : (pc : Int) + off = (tgt : Int)) (pT : V κ cc own nL ret R Q M J f (.int a :: st) → V κ cc own nL ret R Q M tgt f st) (pF : V κ cc own nL ret R Q M J f (.int b :: st) → V κ cc own nL ret R Q M (pc + 3) f st) (k : V κ cc own nL ret R Q M J f (.int (if x < 0 then a else b) :: st)) : V κ cc own nL ret R Q M pc f (.int x :: st) := r_if_lt hd ht (fun h => pT (by rw [if_pos h] at k; exact k)) (fun h => pF (by rw [if_neg h] at k; exact k))
theorem t_icmp_lt {x y : Int32} {a b : Int32} {off : Int} {tgt J : Nat} (hd : decode cc pc = .ok (.if_icmp .lt off, 3)) (ht : (pc : Int) + off = (tgt : Int)) (pT : V κ cc own nL ret R Q M J f (.int a :: st) → V κ cc own nL ret R Q M tgt f st) (pF : V κ cc own nL ret R Q M J f (.int b :: st) → V κ cc own nL ret R Q M (pc + 3) f st) (k : V κ cc own nL ret R Q M J f (.int (if x < y then a else b) :: st)) : V κ cc own nL ret R Q M pc f (.int y :: .int x :: st) := r_icmp_lt hd ht (fun h => pT (by rw [if_pos h] at k; exact k)) (fun h => pF (by rw [if_neg h] at k; exact k))
theorem t_if_ge {x : Int32} {a b : Int32} {off : Int} {tgt J : Nat} (hd : decode cc pc = .ok (.ifCond .ge off, 3)) (ht : (pc : Int) + off = (tgt : Int)) (pT : V κ cc own nL ret R Q M J f (.int a :: st) → V κ cc own nL ret R Q M tgt f st) (pF : V κ cc own nL ret R Q M J f (.int b :: st) → V κ cc own nL ret R Q M (pc + 3) f st) (k : V κ cc own nL ret R Q M J f (.int (if 0 ≤ x then a else b) :: st)) : V κ cc own nL ret R Q M pc f (.int x :: st) := r_if_ge hd ht (fun h => pT (by rw [if_pos h] at k; exact k)) (fun h => pF (by rw [if_neg h] at k; exact k))
theorem t_icmp_ge {x y : Int32} {a b : Int32} {off : Int} {tgt J : Nat} (hd : decode cc pc = .ok (.if_icmp .ge off, 3)) (ht : (pc : Int) + off = (tgt : Int)) (pT : V κ cc own nL ret R Q M J f (.int a :: st) → V κ cc own nL ret R Q M tgt f st) (pF : V κ cc own nL ret R Q M J f (.int b :: st) → V κ cc own nL ret R Q M (pc + 3) f st) (k : V κ cc own nL ret R Q M J f (.int (if y ≤ x then a else b) :: st)) : V κ cc own nL ret R Q M pc f (.int y :: .int x :: st) := r_icmp_ge hd ht (fun h => pT (by rw [if_pos h] at k; exact k)) (fun h => pF (by rw [if_neg h] at k; exact k))
theorem t_if_gt {x : Int32} {a b : Int32} {off : Int} {tgt J : Nat} (hd : decode cc pc = .ok (.ifCond .gt off, 3)) (ht : (pc : Int) + off = (tgt : Int)) (pT : V κ cc own nL ret R Q M J f (.int a :: st) → V κ cc own nL ret R Q M tgt f st) (pF : V κ cc own nL ret R Q M J f (.int b :: st) → V κ cc own nL ret R Q M (pc + 3) f st) (k : V κ cc own nL ret R Q M J f (.int (if 0 < x then a else b) :: st)) : V κ cc own nL ret R Q M pc f (.int x :: st) := r_if_gt hd ht (fun h => pT (by rw [if_pos h] at k; exact k)) (fun h => pF (by rw [if_neg h] at k; exact k))
theorem t_icmp_gt {x y : Int32} {a b : Int32} {off : Int} {tgt J : Nat} (hd : decode cc pc = .ok (.if_icmp .gt off, 3)) (ht : (pc : Int) + off = (tgt : Int)) (pT : V κ cc own nL ret R Q M J f (.int a :: st) → V κ cc own nL ret R Q M tgt f st) (pF : V κ cc own nL ret R Q M J f (.int b :: st) → V κ cc own nL ret R Q M (pc + 3) f st) (k : V κ cc own nL ret R Q M J f (.int (if y < x then a else b) :: st)) : V κ cc own nL ret R Q M pc f (.int y :: .int x :: st) := r_icmp_gt hd ht (fun h => pT (by rw [if_pos h] at k; exact k)) (fun h => pF (by rw [if_neg h] at k; exact k))
theorem t_if_le {x : Int32} {a b : Int32} {off : Int} {tgt J : Nat} (hd : decode cc pc = .ok (.ifCond .le off, 3)) (ht : (pc : Int) + off = (tgt : Int)) (pT : V κ cc own nL ret R Q M J f (.int a :: st) → V κ cc own nL ret R Q M tgt f st) (pF : V κ cc own nL ret R Q M J f (.int b :: st) → V κ cc own nL ret R Q M (pc + 3) f st) (k : V κ cc own nL ret R Q M J f (.int (if x ≤ 0 then a else b) :: st)) : V κ cc own nL ret R Q M pc f (.int x :: st) := r_if_le hd ht (fun h => pT (by rw [if_pos h] at k; exact k)) (fun h => pF (by rw [if_neg h] at k; exact k))
theorem t_icmp_le {x y : Int32} {a b : Int32} {off : Int} {tgt J : Nat} (hd : decode cc pc = .ok (.if_icmp .le off, 3)) (ht : (pc : Int) + off = (tgt : Int)) (pT : V κ cc own nL ret R Q M J f (.int a :: st) → V κ cc own nL ret R Q M tgt f st) (pF : V κ cc own nL ret R Q M J f (.int b :: st) → V κ cc own nL ret R Q M (pc + 3) f st) (k : V κ cc own nL ret R Q M J f (.int (if x ≤ y then a else b) :: st)) : V κ cc own nL ret R Q M pc f (.int y :: .int x :: st) := r_icmp_le hd ht (fun h => pT (by rw [if_pos h] at k; exact k)) (fun h => pF (by rw [if_neg h] at k; exact k))
theorem t_ifeq_b {p : Prop} [Decidable p] {a b : Int32} {off : Int} {tgt J : Nat} (hd : decode cc pc = .ok (.ifCond .eq off, 3)) (ht : (pc : Int) + off = (tgt : Int)) (pT : V κ cc own nL ret R Q M J f (.int a :: st) → V κ cc own nL ret R Q M tgt f st) (pF : V κ cc own nL ret R Q M J f (.int b :: st) → V κ cc own nL ret R Q M (pc + 3) f st) (k : V κ cc own nL ret R Q M J f (.int (if p then b else a) :: st)) : V κ cc own nL ret R Q M pc f (.int (bI p) :: st) := r_ifeq_b hd ht (fun h => pT (by rw [if_neg h] at k; exact k)) (fun h => pF (by rw [if_pos h] at k; exact k))
theorem t_ifeq_bL {p : Prop} [Decidable p] {a b : Int64} {off : Int} {tgt J : Nat} (hd : decode cc pc = .ok (.ifCond .eq off, 3)) (ht : (pc : Int) + off = (tgt : Int)) (pT : V κ cc own nL ret R Q M J f (.long a :: st) → V κ cc own nL ret R Q M tgt f st) (pF : V κ cc own nL ret R Q M J f (.long b :: st) → V κ cc own nL ret R Q M (pc + 3) f st) (k : V κ cc own nL ret R Q M J f (.long (if p then b else a) :: st)) : V κ cc own nL ret R Q M pc f (.int (bI p) :: st) := r_ifeq_b hd ht (fun h => pT (by rw [if_neg h] at k; exact k)) (fun h => pF (by rw [if_pos h] at k; exact k))
theorem t_ifne_b {p : Prop} [Decidable p] {a b : Int32} {off : Int} {tgt J : Nat} (hd : decode cc pc = .ok (.ifCond .ne off, 3)) (ht : (pc : Int) + off = (tgt : Int)) (pT : V κ cc own nL ret R Q M J f (.int a :: st) → V κ cc own nL ret R Q M tgt f st) (pF : V κ cc own nL ret R Q M J f (.int b :: st) → V κ cc own nL ret R Q M (pc + 3) f st) (k : V κ cc own nL ret R Q M J f (.int (if p then a else b) :: st)) : V κ cc own nL ret R Q M pc f (.int (bI p) :: st) := r_ifne_b hd ht (fun h => pT (by rw [if_pos h] at k; exact k)) (fun h => pF (by rw [if_neg h] at k; exact k))
theorem t_ifne_bL {p : Prop} [Decidable p] {a b : Int64} {off : Int} {tgt J : Nat} (hd : decode cc pc = .ok (.ifCond .ne off, 3)) (ht : (pc : Int) + off = (tgt : Int)) (pT : V κ cc own nL ret R Q M J f (.long a :: st) → V κ cc own nL ret R Q M tgt f st) (pF : V κ cc own nL ret R Q M J f (.long b :: st) → V κ cc own nL ret R Q M (pc + 3) f st) (k : V κ cc own nL ret R Q M J f (.long (if p then a else b) :: st)) : V κ cc own nL ret R Q M pc f (.int (bI p) :: st) := r_ifne_b hd ht (fun h => pT (by rw [if_pos h] at k; exact k)) (fun h => pF (by rw [if_neg h] at k; exact k))
end SW

/-- fewer locals known -/
def wkL : List (Option Value) → List (Option Value) → Prop
  | [], _ => True
  | none :: a, _ :: b => wkL a b
  | some v :: a, some w :: b => v = w ∧ wkL a b
  | _, _ => False
theorem wk_0 {b : List (Option Value)} : wkL [] b := trivial
theorem wk_n {a b : List (Option Value)} {x : Option Value} (h : wkL a b) : wkL (none :: a) (x :: b) := h
theorem wk_s {a b : List (Option Value)} {v w : Value} (e : v = w) (h : wkL a b) : wkL (some v :: a) (some w :: b) := ⟨e, h⟩
theorem wkL_get : ∀ {a b : List (Option Value)}, wkL a b → ∀ (i : Nat) (v : Value), a[i]? = some (some v) → b[i]? = some (some v)
  | [], _, _, i, v, h => by simp at h
  | none :: a, [], h, i, v, e => by simp [wkL] at h
  | none :: a, x :: b, h, i, v, e => by
    cases i with
    | zero => simp at e
    | succ i =>
      rw [List.getElem?_cons_succ] at e ⊢
      exact wkL_get (a := a) (by simpa [wkL] using h) i v e
  | some u :: a, [], h, i, v, e => by simp [wkL] at h
  | some u :: a, none :: b, h, i, v, e => by simp [wkL] at h
  | some u :: a, some w :: b, h, i, v, e => by
    simp only [wkL] at h
    cases i with
    | zero =>
      rw [List.getElem?_cons_zero] at e ⊢
      rw [← h.1]
      exact e
    | succ i =>
      rw [List.getElem?_cons_succ] at e ⊢
      exact wkL_get (a := a) h.2 i v e
theorem V.bk {κ : Kx} {cc : ByteArray} {own : String} {nL : Nat} {ret : Option FieldType} {R : Room} {Q : State → Prop} {M M' : Mem} {pc : Nat} {f f' : List (Option Value)} {st : List Value} (k : V κ cc own nL ret R Q M' pc f' st) (hM : M = M') (h : wkL f' f) : V κ cc own nL ret R Q M pc f st := by
  subst hM
  intro cx H locs ls hP hS hl
  refine k cx H locs ls hP hS ⟨hl.1, hl.2.1, fun q hq => ?_⟩
  obtain ⟨i, v⟩ := q
  have h1 := (lfl_mem.mp hq).2
  rw [Nat.sub_zero] at h1
  exact hl.2.2 (i, v) (lfl_mem.mpr ⟨Nat.zero_le _, by rw [Nat.sub_zero]; exact wkL_get h i v h1⟩)
theorem V.mem {κ : Kx} {cc : ByteArray} {own : String} {nL : Nat} {ret : Option FieldType} {R : Room} {Q : State → Prop} {M M' : Mem} {pc : Nat} {f : List (Option Value)} {st : List Value} (h : M = M') (k : V κ cc own nL ret R Q M' pc f st) : V κ cc own nL ret R Q M pc f st := by subst h; exact k

/-! PURE WORDS. S: a ministry's 41 numbers as the reference lays them: watchmen, glue, many, night, watched; from 5 kinds, 11 legs, 17 saws, 23 grudges, 29 cushions, 35 caught -/
abbrev cNone : Int32 := -1000000
abbrev cBad : Int32 := -1000001
abbrev cState : Int32 := -1000002
abbrev cFull : Int32 := -1000003
def highB (kind leg soft : Int32) : Int32 := if kind = nI 2 then (leg + soft) / nI 2 * nI 2 else if kind = nI 3 then leg + nI 2 * soft else if kind = nI 4 then leg else if kind = nI 5 then (if leg ≤ 0 then nI 0 else leg + nI 5) else leg + soft
def highS (S : Nat → Int32) (c : Nat) : Int32 := highB (S (5 + c)) (S (11 + c)) (S (29 + c))
def abv (S : Nat → Int32) (o c : Nat) : Bool := decide (highS S c < highS S o) || (decide (highS S o = highS S c) && decide (o < c))
def rankN (S : Nat → Int32) (c : Nat) : Nat → Nat
  | 0 => 0
  | n + 1 => rankN S c n + if abv S n c = true then 1 else 0
theorem rankN_le (S : Nat → Int32) (c : Nat) : ∀ n, rankN S c n ≤ n
  | 0 => Nat.le_refl _
  | n + 1 => by
    have := rankN_le S c n
    unfold rankN
    split <;> omega
/-- the one at rank r (the last of those below m, of n) -/
def atN (S : Nat → Int32) (n : Nat) (r : Int32) : Nat → Int32
  | 0 => cNone
  | c + 1 => if nI (rankN S c n) = r then nI c else atN S n r c
def whoS (S : Nat → Int32) (n c : Nat) : Int32 := if S (23 + c) = nI 1 then atN S n (nI (rankN S c n) - nI 1) n else if S (23 + c) = nI 2 then atN S n (nI 0) n else if S (23 + c) = nI 3 then nI ((c + 1) % n) else cNone
def tgtS (S : Nat → Int32) (n c : Nat) : Int32 := if S (17 + c) = 0 ∨ whoS S n c = nI c then cNone else whoS S n c
def sawnS (S : Nat → Int32) (s c : Nat) : Int32 := if S (5 + c) = nI 4 ∨ S (5 + c) = nI 5 then S (17 + s) / nI 2 else S (17 + s)
abbrev hasB (w c : Int32) : Prop := (w >>> (c &&& 31)) &&& nI 1 = nI 1
def sumN (S : Nat → Int32) (a : Nat) : Nat → Int32
  | 0 => nI 0
  | c + 1 => sumN S a c + S (a + c)
/-- the first n of g laid over f -/
def pt (f g : Nat → Int32) (n : Nat) : Nat → Int32 := fun k => if k < n then g k else f k
theorem pt_0 (f g : Nat → Int32) : pt f g 0 = f := by
  funext k
  simp [pt]
theorem pt_s (f g : Nat → Int32) (n : Nat) : upd (pt f g n) n (g n) = pt f g (n + 1) := by
  funext k
  unfold upd pt
  by_cases h : k = n
  · subst h
    simp
  · rw [if_neg h]
    by_cases h2 : k < n
    · rw [if_pos h2, if_pos (by omega)]
    · rw [if_neg h2, if_neg (by omega)]
