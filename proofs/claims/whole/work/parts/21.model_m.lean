abbrev isKd (a b : Int32) : Prop := b = 0 ∨ a = b ∨ (b = nI 1 ∧ a < nI 4) ∨ (b = nI 4 ∧ a = nI 5)
def btM (M : Mem) (v : Int32) : Mem := if nI 16 ≤ M 0 24 then M else mset (mset M 13 (M 0 24).toNatClampNeg v) 0 24 (M 0 24 + nI 1)
def trOK (M : Mem) : Prop := ∃ t, t ≤ 16 ∧ M 0 24 = nI t
theorem btM_ok {M : Mem} (h : trOK M) (v : Int32) : trOK (btM M v) := by
  obtain ⟨t, h1, h2⟩ := h
  unfold btM
  split
  · exact ⟨t, h1, h2⟩
  · rename_i hc
    rw [h2] at hc
    have : t < 16 := Nat.not_le.mp (fun z => hc (nI_le z (by omega)))
    refine ⟨t + 1, by omega, ?_⟩
    rw [mset_eq, pk_us, h2, nI_add]
theorem btM_4 (M : Mem) (v : Int32) : btM M v 4 = M 4 := by
  unfold btM
  split <;> rfl
def btL (M : Mem) : List Nat → Mem
  | [] => M
  | c :: t => btL (btM M (nI c)) t
theorem btL_ok : ∀ (cs : List Nat) {M : Mem}, trOK M → trOK (btL M cs)
  | [], _, h => h
  | c :: t, _, h => btL_ok t (btM_ok h _)
theorem btL_4 : ∀ (cs : List Nat) (M : Mem), btL M cs 4 = M 4
  | [], _ => rfl
  | c :: t, M => (btL_4 t _).trans (btM_4 M _)
theorem btL_app : ∀ (cs ds : List Nat) (M : Mem), btL (btL M cs) ds = btL M (cs ++ ds)
  | [], _, _ => rfl
  | c :: t, ds, M => btL_app t ds _
def okL (k : Int32) : List Nat := if k = nI 5 then [14, 13, 10] else [13, 10]
def okV (k leg : Int32) : Int32 := if k = nI 5 then nI 2 * (leg - nI 100) else leg - nI 100
def mkL (k : Int32) : List Nat := if k = nI 2 then [24, 21, 20] else if k = nI 3 then [22, 21, 20] else if k = nI 1 then [21, 20] else [23, 20] ++ okL k
def mkV (k leg soft : Int32) (w : Nat) : Int32 := if k = nI 2 then nI 2 * (nI w + soft) else if k = nI 3 then nI w + soft - nI 1000 else if k = nI 1 then nI w + soft else nI w - okV k leg
def szL (k : Int32) : List Nat := if k = nI 2 then [12] ++ ([11, 10] ++ mkL k) else if k < nI 4 then [11, 10] ++ mkL k else okL k
def szV (k leg soft : Int32) (w : Nat) : Int32 := if k = nI 2 then -(leg + mkV k leg soft w) else if k < nI 4 then leg + mkV k leg soft w else okV k leg
def rcN (Z : Nat → Int32) : Nat → Int32
  | 0 => nI 0
  | j + 1 => rcN Z j + (if Z j < 0 then nI 0 else nI 1)
def cntV (M : Mem) (n q : Nat) : Int32 := if q = 0 then rcN (M 2) 8 else if q = 1 then M 4 2 else if q = 2 then M 4 3 else if q = 3 then M 4 4 else if q = 4 then sumN (M 4) 11 n else if q = 5 then sumN (M 4) 35 n else if q = 6 then M 0 19 else M 0 8
set_option maxHeartbeats 4000000 in
set_option maxRecDepth 100000 in
theorem c_X6_isKind (l : Launch) (G : Gx) (M : Mem) (a b : Int32) : Con l G yX6_isKind cX6_isKind 2 (some .boolean) 0 0 [.int a, .int b] M (rI (bI (isKd a b)) M) := by
  refine Con.ofV [some (.int a), some (.int b)] RX6 (by decide) rfl (Nat.le_of_ble_eq_true rfl) rfl ?_
  intro κ hl hG hk0 hn0
  subst hl hG
  have hcs : κ.k ≤ 0 ∧ κ.n ≤ 0 := ⟨Nat.le_of_eq hk0, Nat.le_of_eq hn0⟩
  refine r_iload_n (pc := 0) dX6_isKind_0 rfl ?_
  refine r_if_eq (tgt := 29) (pc := 1) dX6_isKind_1 (by decide) (fun h1 => ?_) (fun h1 => ?_)
  · have hp : isKd a b := Or.inl h1
    refine r_iconst (v := nI 1) (pc := 29) dX6_isKind_29 (by decide) ?_
    refine r_goto (tgt := 34) (pc := 30) dX6_isKind_30 (by decide) ?_
    exact r_zret (pc := 34) dX6_isKind_34 rfl (by first | rfl | exact bI_narrow) (by first | exact rI_1 hp | exact rI_0 hp)
  · refine r_iload_n (pc := 4) dX6_isKind_4 rfl ?_
    refine r_iload_n (pc := 5) dX6_isKind_5 rfl ?_
    refine r_icmp_eq (tgt := 29) (pc := 6) dX6_isKind_6 (by decide) (fun h6 => ?_) (fun h6 => ?_)
    · have hp : isKd a b := Or.inr (Or.inl h6)
      refine r_iconst (v := nI 1) (pc := 29) dX6_isKind_29 (by decide) ?_
      refine r_goto (tgt := 34) (pc := 30) dX6_isKind_30 (by decide) ?_
      exact r_zret (pc := 34) dX6_isKind_34 rfl (by first | rfl | exact bI_narrow) (by first | exact rI_1 hp | exact rI_0 hp)
    · refine r_iload_n (pc := 9) dX6_isKind_9 rfl ?_
      refine r_iconst (v := nI 1) (pc := 10) dX6_isKind_10 (by decide) ?_
      refine r_icmp_ne (tgt := 19) (pc := 11) dX6_isKind_11 (by decide) (fun h11 => ?_) (fun h11 => ?_)
      · have hq : ¬ (b = nI 1 ∧ a < nI 4) := fun z => h11 z.1
        refine r_iload_n (pc := 19) dX6_isKind_19 rfl ?_
        refine r_iconst (v := nI 4) (pc := 20) dX6_isKind_20 (by decide) ?_
        refine r_icmp_ne (tgt := 33) (pc := 21) dX6_isKind_21 (by decide) (fun h21 => ?_) (fun h21 => ?_)
        · have hp : ¬ isKd a b := by rintro (z | z | z | z); exact h1 z; exact h6 z; exact hq z; exact h21 z.1
          refine r_iconst (v := nI 0) (pc := 33) dX6_isKind_33 (by decide) ?_
          exact r_zret (pc := 34) dX6_isKind_34 rfl (by first | rfl | exact bI_narrow) (by first | exact rI_1 hp | exact rI_0 hp)
        · refine r_iload_n (pc := 24) dX6_isKind_24 rfl ?_
          refine r_iconst (v := nI 5) (pc := 25) dX6_isKind_25 (by decide) ?_
          refine r_icmp_ne (tgt := 33) (pc := 26) dX6_isKind_26 (by decide) (fun h26 => ?_) (fun h26 => ?_)
          · have hp : ¬ isKd a b := by rintro (z | z | z | z); exact h1 z; exact h6 z; exact hq z; exact h26 z.2
            refine r_iconst (v := nI 0) (pc := 33) dX6_isKind_33 (by decide) ?_
            exact r_zret (pc := 34) dX6_isKind_34 rfl (by first | rfl | exact bI_narrow) (by first | exact rI_1 hp | exact rI_0 hp)
          · have hp : isKd a b := Or.inr (Or.inr (Or.inr ⟨h21, h26⟩))
            refine r_iconst (v := nI 1) (pc := 29) dX6_isKind_29 (by decide) ?_
            refine r_goto (tgt := 34) (pc := 30) dX6_isKind_30 (by decide) ?_
            exact r_zret (pc := 34) dX6_isKind_34 rfl (by first | rfl | exact bI_narrow) (by first | exact rI_1 hp | exact rI_0 hp)
      · refine r_iload_n (pc := 14) dX6_isKind_14 rfl ?_
        refine r_iconst (v := nI 4) (pc := 15) dX6_isKind_15 (by decide) ?_
        refine r_icmp_lt (tgt := 29) (pc := 16) dX6_isKind_16 (by decide) (fun h16 => ?_) (fun h16 => ?_)
        · have hp : isKd a b := Or.inr (Or.inr (Or.inl ⟨h11, h16⟩))
          refine r_iconst (v := nI 1) (pc := 29) dX6_isKind_29 (by decide) ?_
          refine r_goto (tgt := 34) (pc := 30) dX6_isKind_30 (by decide) ?_
          exact r_zret (pc := 34) dX6_isKind_34 rfl (by first | rfl | exact bI_narrow) (by first | exact rI_1 hp | exact rI_0 hp)
        · have hq : ¬ (b = nI 1 ∧ a < nI 4) := fun z => h16 z.2
          refine r_iload_n (pc := 19) dX6_isKind_19 rfl ?_
          refine r_iconst (v := nI 4) (pc := 20) dX6_isKind_20 (by decide) ?_
          refine r_icmp_ne (tgt := 33) (pc := 21) dX6_isKind_21 (by decide) (fun h21 => ?_) (fun h21 => ?_)
          · have hp : ¬ isKd a b := by rintro (z | z | z | z); exact h1 z; exact h6 z; exact hq z; exact h21 z.1
            refine r_iconst (v := nI 0) (pc := 33) dX6_isKind_33 (by decide) ?_
            exact r_zret (pc := 34) dX6_isKind_34 rfl (by first | rfl | exact bI_narrow) (by first | exact rI_1 hp | exact rI_0 hp)
          · refine r_iload_n (pc := 24) dX6_isKind_24 rfl ?_
            refine r_iconst (v := nI 5) (pc := 25) dX6_isKind_25 (by decide) ?_
            refine r_icmp_ne (tgt := 33) (pc := 26) dX6_isKind_26 (by decide) (fun h26 => ?_) (fun h26 => ?_)
            · have hp : ¬ isKd a b := by rintro (z | z | z | z); exact h1 z; exact h6 z; exact hq z; exact h26 z.2
              refine r_iconst (v := nI 0) (pc := 33) dX6_isKind_33 (by decide) ?_
              exact r_zret (pc := 34) dX6_isKind_34 rfl (by first | rfl | exact bI_narrow) (by first | exact rI_1 hp | exact rI_0 hp)
            · have hp : isKd a b := Or.inr (Or.inr (Or.inr ⟨h21, h26⟩))
              refine r_iconst (v := nI 1) (pc := 29) dX6_isKind_29 (by decide) ?_
              refine r_goto (tgt := 34) (pc := 30) dX6_isKind_30 (by decide) ?_
              exact r_zret (pc := 34) dX6_isKind_34 rfl (by first | rfl | exact bI_narrow) (by first | exact rI_1 hp | exact rI_0 hp)
set_option maxHeartbeats 4000000 in
set_option maxRecDepth 100000 in
theorem c_X6_kind (l : Launch) (G : Gx) (M : Mem) (x : Int32) (n : Nat) (hn : M 4 2 = nI n) (hn6 : n ≤ 6) : Con l G yX6_kind cX6_kind 2 (some .int) 2 46 [.ref (gA G 0), .int x] M (fun v M' => (¬ (chG n x) ∧ rI cBad M v M') ∨ (∃ k, k < n ∧ x = nI k ∧ rI (M 4 (5 + k)) M v M')) := by
  refine Con.ofV [some (.ref (gA G 0)), some (.int x)] RX6 (by decide) rfl (Nat.le_of_ble_eq_true rfl) rfl ?_
  intro κ hl hG hk0 hn0
  subst hl hG
  have hcs : κ.k ≤ 0 ∧ κ.n ≤ 0 := ⟨Nat.le_of_eq hk0, Nat.le_of_eq hn0⟩
  generalize hPP : (fun v M' => (¬ (chG n x) ∧ rI cBad M v M') ∨ (∃ k, k < n ∧ x = nI k ∧ rI (M 4 (5 + k)) M v M')) = PP
  refine r_aload_n (pc := 0) dX6_kind_0 rfl ?_
  refine r_iload_n (pc := 1) dX6_kind_1 rfl ?_
  refine iv_X6_178 (c_X6_isChair _ _ _ _) (pc := 2) dX6_kind_2 rfl ⟨Nat.le_of_ble_eq_true rfl, Nat.le_of_ble_eq_true rfl⟩ (Nat.le_of_ble_eq_true rfl) hcs (kI ?_)
  refine r_ifeq_b (tgt := 19) (pc := 5) dX6_kind_5 (by decide) (fun h5 => ?_) (fun h5 => ?_)
  · have g5 : ¬ chG n x := fun z => h5 (ch_mpr hn hn6 z)
    refine r_ldc (pc := 19) dX6_kind_19 lk_X6_67 ?_
    exact r_iret (pc := 21) dX6_kind_21 rfl (by subst hPP; exact (by first | exact Or.inr ⟨k, hk, rfl, rfl, rfl⟩ | exact Or.inl ⟨g5, rfl, rfl⟩))
  · obtain ⟨k, hk, rfl⟩ := ch_mp hn hn6 h5
    refine r_aload_n (pc := 8) dX6_kind_8 rfl ?_
    refine gf_X6_19 (pc := 9) dX6_kind_9 rfl ?_
    refine r_iconst (v := nI 5) (pc := 12) dX6_kind_12 (by decide) ?_
    refine r_iload_n (pc := 13) dX6_kind_13 rfl ?_
    first | with_reducible refine r_iaddN (pc := 14) dX6_kind_14 ?_ | refine r_iadd (pc := 14) dX6_kind_14 ?_
    refine r_iald (pc := 15) dX6_kind_15 rfl (show _ < 41 by omega) ?_
    refine r_goto (tgt := 21) (pc := 16) dX6_kind_16 (by decide) ?_
    exact r_iret (pc := 21) dX6_kind_21 rfl (by subst hPP; exact (by first | exact Or.inr ⟨k, hk, rfl, rfl, rfl⟩ | exact Or.inl ⟨g5, rfl, rfl⟩))
set_option maxHeartbeats 4000000 in
set_option maxRecDepth 100000 in
theorem c_X6_as (l : Launch) (G : Gx) (M : Mem) (x y : Int32) (n : Nat) (hn : M 4 2 = nI n) (hn6 : n ≤ 6) : Con l G yX6_as cX6_as 3 (some .int) 2 46 [.ref (gA G 0), .int x, .int y] M (fun v M' => (¬ (chG n x ∧ rgG 0 5 y) ∧ rI cBad M v M') ∨ (∃ k q, k < n ∧ q ≤ 5 ∧ x = nI k ∧ y = nI q ∧ ((isKd (M 4 (5 + k)) (nI q) ∧ rI (nI k) (mset M 0 3 (nI 0)) v M') ∨ (¬ isKd (M 4 (5 + k)) (nI q) ∧ rI (fnV 3) (mset M 0 3 (nI 3)) v M')))) := by
  refine Con.ofV [some (.ref (gA G 0)), some (.int x), some (.int y)] RX6 (by decide) rfl (Nat.le_of_ble_eq_true rfl) rfl ?_
  intro κ hl hG hk0 hn0
  subst hl hG
  have hcs : κ.k ≤ 0 ∧ κ.n ≤ 0 := ⟨Nat.le_of_eq hk0, Nat.le_of_eq hn0⟩
  generalize hPP : (fun v M' => (¬ (chG n x ∧ rgG 0 5 y) ∧ rI cBad M v M') ∨ (∃ k q, k < n ∧ q ≤ 5 ∧ x = nI k ∧ y = nI q ∧ ((isKd (M 4 (5 + k)) (nI q) ∧ rI (nI k) (mset M 0 3 (nI 0)) v M') ∨ (¬ isKd (M 4 (5 + k)) (nI q) ∧ rI (fnV 3) (mset M 0 3 (nI 3)) v M')))) = PP
  refine r_aload_n (pc := 0) dX6_as_0 rfl ?_
  refine r_iload_n (pc := 1) dX6_as_1 rfl ?_
  refine iv_X6_178 (c_X6_isChair _ _ _ _) (pc := 2) dX6_as_2 rfl ⟨Nat.le_of_ble_eq_true rfl, Nat.le_of_ble_eq_true rfl⟩ (Nat.le_of_ble_eq_true rfl) hcs (kI ?_)
  refine r_ifeq_b (tgt := 20) (pc := 5) dX6_as_5 (by decide) (fun h5 => ?_) (fun h5 => ?_)
  · have g5 : ¬ chG n x := fun z => h5 (ch_mpr hn hn6 z)
    refine r_ldc (pc := 20) dX6_as_20 lk_X6_67 ?_
    exact r_iret (pc := 22) dX6_as_22 rfl (by subst hPP; exact (Or.inl ⟨by first | exact fun z => g5 z.1 | exact fun z => g17 z.2, rfl, rfl⟩))
  · obtain ⟨k, hk, rfl⟩ := ch_mp hn hn6 h5
    refine r_iload_n (pc := 8) dX6_as_8 rfl ?_
    refine r_i2l (pc := 9) dX6_as_9 ?_
    refine r_lconst (v := (nI 0).toInt64) (pc := 10) dX6_as_10 (by decide) ?_
    refine r_ldc2 (pc := 11) dX6_as_11 lk_X6_207 ?_
    refine iv_X6_57 (c_X6_inI _ _ _ _ _ _) (pc := 14) dX6_as_14 ⟨Nat.le_of_ble_eq_true rfl, Nat.le_of_ble_eq_true rfl⟩ (Nat.le_of_ble_eq_true rfl) hcs (kI ?_)
    refine r_ifne_b (tgt := 23) (pc := 17) dX6_as_17 (by decide) (fun h17 => ?_) (fun h17 => ?_)
    · obtain ⟨q, hqa, hqb, rfl⟩ := rg_mp (a := 0) (b := 5) h17 (by omega) (by omega)
      refine r_aload_n (pc := 23) dX6_as_23 rfl ?_
      refine gf_X6_19 (pc := 24) dX6_as_24 rfl ?_
      refine r_iconst (v := nI 5) (pc := 27) dX6_as_27 (by decide) ?_
      refine r_iload_n (pc := 28) dX6_as_28 rfl ?_
      first | with_reducible refine r_iaddN (pc := 29) dX6_as_29 ?_ | refine r_iadd (pc := 29) dX6_as_29 ?_
      refine r_iald (pc := 30) dX6_as_30 rfl (show _ < 41 by omega) ?_
      refine r_iload_n (pc := 31) dX6_as_31 rfl ?_
      refine iv_X6_245 (c_X6_isKind _ _ _ _ _) (pc := 32) dX6_as_32 ⟨Nat.le_of_ble_eq_true rfl, Nat.le_of_ble_eq_true rfl⟩ (Nat.le_of_ble_eq_true rfl) hcs (kI ?_)
      refine r_ifeq_b (tgt := 46) (pc := 35) dX6_as_35 (by decide) (fun h35 => ?_) (fun h35 => ?_)
      · refine r_aload_n (pc := 46) dX6_as_46 rfl ?_
        refine r_iconst (v := nI 3) (pc := 47) dX6_as_47 (by decide) ?_
        refine iv_X6_68 (c_X6_find _ _ _ _) (pc := 48) dX6_as_48 rfl ⟨Nat.le_of_ble_eq_true rfl, Nat.le_of_ble_eq_true rfl⟩ (Nat.le_of_ble_eq_true rfl) hcs (kI ?_)
        exact r_iret (pc := 51) dX6_as_51 rfl (by subst hPP; exact (by first | exact Or.inr ⟨k, q, hk, hqb, rfl, rfl, Or.inl ⟨h35, rfl, rfl⟩⟩ | exact Or.inr ⟨k, q, hk, hqb, rfl, rfl, Or.inr ⟨h35, rfl, rfl⟩⟩))
      · refine r_aload_n (pc := 38) dX6_as_38 rfl ?_
        refine r_iload_n (pc := 39) dX6_as_39 rfl ?_
        refine iv_X6_72 (c_X6_well _ _ _ _) (pc := 40) dX6_as_40 rfl ⟨Nat.le_of_ble_eq_true rfl, Nat.le_of_ble_eq_true rfl⟩ (Nat.le_of_ble_eq_true rfl) hcs (kI ?_)
        refine r_goto (tgt := 51) (pc := 43) dX6_as_43 (by decide) ?_
        exact r_iret (pc := 51) dX6_as_51 rfl (by subst hPP; exact (by first | exact Or.inr ⟨k, q, hk, hqb, rfl, rfl, Or.inl ⟨h35, rfl, rfl⟩⟩ | exact Or.inr ⟨k, q, hk, hqb, rfl, rfl, Or.inr ⟨h35, rfl, rfl⟩⟩))
    · have g17 : ¬ rgG 0 5 y := fun z => h17 (rg_mpr z (by omega))
      refine r_ldc (pc := 20) dX6_as_20 lk_X6_67 ?_
      exact r_iret (pc := 22) dX6_as_22 rfl (by subst hPP; exact (Or.inl ⟨by first | exact fun z => g5 z.1 | exact fun z => g17 z.2, rfl, rfl⟩))
set_option maxHeartbeats 4000000 in
set_option maxRecDepth 100000 in
theorem c_X6_image (l : Launch) (G : Gx) (M : Mem) (x : Int32) (n : Nat) (ht : M 0 4 = 0 ↔ n = 0) : Con l G yX6_image cX6_image 3 (some .int) 1 25 [.ref (gA G 0), .int x] M (fun v M' => (¬ rgG 0 1 x ∧ rI cBad M v M') ∨ (∃ k, k ≤ 1 ∧ x = nI k ∧ ((n = 0 ∧ rI cState M v M') ∨ (0 < n ∧ rI (nI 1) (mset (setA M 12 (fb_put (M 12) (M 4) (41 * k) 41)) 11 k 1) v M')))) := by
  refine Con.ofV [some (.ref (gA G 0)), some (.int x), none] RX6 (by decide) rfl (Nat.le_of_ble_eq_true rfl) rfl ?_
  intro κ hl hG hk0 hn0
  subst hl hG
  have hcs : κ.k ≤ 0 ∧ κ.n ≤ 0 := ⟨Nat.le_of_eq hk0, Nat.le_of_eq hn0⟩
  generalize hPP : (fun v M' => (¬ rgG 0 1 x ∧ rI cBad M v M') ∨ (∃ k, k ≤ 1 ∧ x = nI k ∧ ((n = 0 ∧ rI cState M v M') ∨ (0 < n ∧ rI (nI 1) (mset (setA M 12 (fb_put (M 12) (M 4) (41 * k) 41)) 11 k 1) v M')))) = PP
  refine r_iload_n (pc := 0) dX6_image_0 rfl ?_
  refine r_i2l (pc := 1) dX6_image_1 ?_
  refine r_lconst (v := (nI 0).toInt64) (pc := 2) dX6_image_2 (by decide) ?_
  refine r_lconst (v := (nI 1).toInt64) (pc := 3) dX6_image_3 (by decide) ?_
  refine iv_X6_57 (c_X6_inI _ _ _ _ _ _) (pc := 4) dX6_image_4 ⟨Nat.le_of_ble_eq_true rfl, Nat.le_of_ble_eq_true rfl⟩ (Nat.le_of_ble_eq_true rfl) hcs (kI ?_)
  refine r_ifne_b (tgt := 13) (pc := 7) dX6_image_7 (by decide) (fun h7 => ?_) (fun h7 => ?_)
  · obtain ⟨k, hka, hkb, rfl⟩ := rg_mp (a := 0) (b := 1) h7 (by omega) (by omega)
    refine r_aload_n (pc := 13) dX6_image_13 rfl ?_
    refine gf_X6_135 (pc := 14) dX6_image_14 rfl ?_
    refine r_if_ne (tgt := 23) (pc := 17) dX6_image_17 (by decide) (fun h17 => ?_) (fun h17 => ?_)
    · have hn1 : 0 < n := Nat.pos_of_ne_zero (fun z => h17 (ht.mpr z))
      refine r_iconst (v := nI 0) (pc := 23) dX6_image_23 (by decide) ?_
      refine r_st_n [_, _, _] (pc := 24) dX6_image_24 (by decide) rfl rfl ?_
      refine V.bk (loopV (fun (σ : Nat) => V κ cX6_image RX6 3 (some .int) (rmx 1 25) (QM κ PP) (setA M 12 (fb_put (M 12) (M 4) (41 * k) σ)) 25 [some (.ref (gA κ.G 0)), some (.int (nI k)), some (.int (nI σ))] []) (fun (σ : Nat) => σ ≤ 41) (fun (σ : Nat) => 41 - σ) ?_ 0 (Nat.zero_le _)) (by rw [fb_put_0, setA_id]) (by (repeat (first | exact wk_0 | refine wk_n ?_ | refine wk_s rfl ?_)); done)
      rintro j hj ih
      show V κ cX6_image RX6 3 (some .int) (rmx 1 25) (QM κ PP) (setA M 12 (fb_put (M 12) (M 4) (41 * k) j)) 25 [some (.ref (gA κ.G 0)), some (.int (nI k)), some (.int (nI j))] []
      refine r_iload_n (pc := 25) dX6_image_25 rfl ?_
      refine r_bipush (v := nI 41) (pc := 26) dX6_image_26 (by decide) ?_
      refine r_icmp_ge (tgt := 54) (pc := 28) dX6_image_28 (by decide) (fun h28 => ?_) (fun h28 => ?_)
      · have h28 : 41 ≤ j := (nI_leI (by omega) (by omega)).mp h28
        obtain rfl : j = 41 := by omega
        refine r_aload_n (pc := 54) dX6_image_54 rfl ?_
        refine gf_X6_40 (pc := 55) dX6_image_55 rfl ?_
        refine r_iload_n (pc := 58) dX6_image_58 rfl ?_
        refine r_iconst (v := nI 1) (pc := 59) dX6_image_59 (by decide) ?_
        refine r_zast1 (pc := 60) dX6_image_60 (by omega) ?_
        refine r_iconst (v := nI 1) (pc := 61) dX6_image_61 (by decide) ?_
        exact r_iret (pc := 62) dX6_image_62 rfl (by subst hPP; exact (Or.inr ⟨k, hkb, rfl, Or.inr ⟨hn1, rfl, rfl⟩⟩))
      · have h28 : j < 41 := Nat.not_le.mp (fun z => h28 ((nI_leI (by omega) (by omega)).mpr z))
        refine r_aload_n (pc := 31) dX6_image_31 rfl ?_
        refine gf_X6_44 (pc := 32) dX6_image_32 rfl ?_
        refine r_bipush (v := nI 41) (pc := 35) dX6_image_35 (by decide) ?_
        refine r_iload_n (pc := 37) dX6_image_37 rfl ?_
        first | with_reducible refine r_imulN (pc := 38) dX6_image_38 ?_ | refine r_imul (pc := 38) dX6_image_38 ?_
        refine r_iload_n (pc := 39) dX6_image_39 rfl ?_
        first | with_reducible refine r_iaddN (pc := 40) dX6_image_40 ?_ | refine r_iadd (pc := 40) dX6_image_40 ?_
        refine r_aload_n (pc := 41) dX6_image_41 rfl ?_
        refine gf_X6_19 (pc := 42) dX6_image_42 rfl ?_
        refine r_iload_n (pc := 45) dX6_image_45 rfl ?_
        refine r_iald (pc := 46) dX6_image_46 rfl (show _ < 41 by omega) ?_
        refine r_iast (pc := 47) dX6_image_47 rfl (show _ < 82 by omega) ?_
        first | refine r_inc [_, _, _] (pc := 48) dX6_image_48 rfl (nI_inc _) (by decide) rfl rfl ?_ | refine r_inc [_, _, _] (pc := 48) dX6_image_48 rfl rfl (by decide) rfl rfl ?_
        refine r_goto (tgt := 25) (pc := 51) dX6_image_51 (by decide) ?_
        exact V.bk (ih (j + 1) (by omega) (by omega)) (by rw [mset_setA]; exact congrArg _ (fb_put_succ _ _ _ _)) (by (repeat (first | exact wk_0 | refine wk_n ?_ | refine wk_s rfl ?_)); done)
    · have g17 : n = 0 := ht.mp h17
      refine r_ldc (pc := 20) dX6_image_20 lk_X6_169 ?_
      exact r_iret (pc := 22) dX6_image_22 rfl (by subst hPP; exact (Or.inr ⟨k, hkb, rfl, Or.inl ⟨g17, rfl, rfl⟩⟩))
  · have g7 : ¬ rgG 0 1 x := fun z => h7 (rg_mpr z (by omega))
    refine r_ldc (pc := 10) dX6_image_10 lk_X6_67 ?_
    exact r_iret (pc := 12) dX6_image_12 rfl (by subst hPP; exact (Or.inl ⟨g7, rfl, rfl⟩))
set_option maxHeartbeats 4000000 in
set_option maxRecDepth 100000 in
theorem c_X6_restore (l : Launch) (G : Gx) (M : Mem) (x : Int32) : Con l G yX6_restore cX6_restore 3 (some .int) 1 25 [.ref (gA G 0), .int x] M (fun v M' => (¬ rgG 0 1 x ∧ rI cBad M v M') ∨ (∃ k, k ≤ 1 ∧ x = nI k ∧ ((M 11 k = 0 ∧ rI cState M v M') ∨ (¬ M 11 k = 0 ∧ rI (nI 1) (mset (setA M 4 (pt (M 4) (fun z => M 12 (41 * k + z)) 41)) 0 19 (nI 0)) v M')))) := by
  refine Con.ofV [some (.ref (gA G 0)), some (.int x), none] RX6 (by decide) rfl (Nat.le_of_ble_eq_true rfl) rfl ?_
  intro κ hl hG hk0 hn0
  subst hl hG
  have hcs : κ.k ≤ 0 ∧ κ.n ≤ 0 := ⟨Nat.le_of_eq hk0, Nat.le_of_eq hn0⟩
  generalize hPP : (fun v M' => (¬ rgG 0 1 x ∧ rI cBad M v M') ∨ (∃ k, k ≤ 1 ∧ x = nI k ∧ ((M 11 k = 0 ∧ rI cState M v M') ∨ (¬ M 11 k = 0 ∧ rI (nI 1) (mset (setA M 4 (pt (M 4) (fun z => M 12 (41 * k + z)) 41)) 0 19 (nI 0)) v M')))) = PP
  refine r_iload_n (pc := 0) dX6_restore_0 rfl ?_
  refine r_i2l (pc := 1) dX6_restore_1 ?_
  refine r_lconst (v := (nI 0).toInt64) (pc := 2) dX6_restore_2 (by decide) ?_
  refine r_lconst (v := (nI 1).toInt64) (pc := 3) dX6_restore_3 (by decide) ?_
  refine iv_X6_57 (c_X6_inI _ _ _ _ _ _) (pc := 4) dX6_restore_4 ⟨Nat.le_of_ble_eq_true rfl, Nat.le_of_ble_eq_true rfl⟩ (Nat.le_of_ble_eq_true rfl) hcs (kI ?_)
  refine r_ifne_b (tgt := 13) (pc := 7) dX6_restore_7 (by decide) (fun h7 => ?_) (fun h7 => ?_)
  · obtain ⟨k, hka, hkb, rfl⟩ := rg_mp (a := 0) (b := 1) h7 (by omega) (by omega)
    refine r_aload_n (pc := 13) dX6_restore_13 rfl ?_
    refine gf_X6_40 (pc := 14) dX6_restore_14 rfl ?_
    refine r_iload_n (pc := 17) dX6_restore_17 rfl ?_
    refine r_zald (pc := 18) dX6_restore_18 (by omega) ?_
    refine r_if_ne (tgt := 25) (pc := 19) dX6_restore_19 (by decide) (fun h19 => ?_) (fun h19 => ?_)
    · refine r_iconst (v := nI 0) (pc := 25) dX6_restore_25 (by decide) ?_
      refine r_st_n [_, _, _] (pc := 26) dX6_restore_26 (by decide) rfl rfl ?_
      refine V.bk (loopV (fun (σ : Nat) => V κ cX6_restore RX6 3 (some .int) (rmx 1 25) (QM κ PP) (setA M 4 (pt (M 4) (fun z => M 12 (41 * k + z)) σ)) 27 [some (.ref (gA κ.G 0)), some (.int (nI k)), some (.int (nI σ))] []) (fun (σ : Nat) => σ ≤ 41) (fun (σ : Nat) => 41 - σ) ?_ 0 (Nat.zero_le _)) (by rw [pt_0, setA_id]) (by (repeat (first | exact wk_0 | refine wk_n ?_ | refine wk_s rfl ?_)); done)
      rintro j hj ih
      show V κ cX6_restore RX6 3 (some .int) (rmx 1 25) (QM κ PP) (setA M 4 (pt (M 4) (fun z => M 12 (41 * k + z)) j)) 27 [some (.ref (gA κ.G 0)), some (.int (nI k)), some (.int (nI j))] []
      refine r_iload_n (pc := 27) dX6_restore_27 rfl ?_
      refine r_bipush (v := nI 41) (pc := 28) dX6_restore_28 (by decide) ?_
      refine r_icmp_ge (tgt := 56) (pc := 30) dX6_restore_30 (by decide) (fun h30 => ?_) (fun h30 => ?_)
      · have h30 : 41 ≤ j := (nI_leI (by omega) (by omega)).mp h30
        obtain rfl : j = 41 := by omega
        refine r_aload_n (pc := 56) dX6_restore_56 rfl ?_
        refine r_iconst (v := nI 0) (pc := 57) dX6_restore_57 (by decide) ?_
        refine pf_X6_139 (pc := 58) dX6_restore_58 rfl ?_
        refine r_iconst (v := nI 1) (pc := 61) dX6_restore_61 (by decide) ?_
        exact r_iret (pc := 62) dX6_restore_62 rfl (by subst hPP; exact (Or.inr ⟨k, hkb, rfl, Or.inr ⟨h19, rfl, rfl⟩⟩))
      · have h30 : j < 41 := Nat.not_le.mp (fun z => h30 ((nI_leI (by omega) (by omega)).mpr z))
        refine r_aload_n (pc := 33) dX6_restore_33 rfl ?_
        refine gf_X6_19 (pc := 34) dX6_restore_34 rfl ?_
        refine r_iload_n (pc := 37) dX6_restore_37 rfl ?_
        refine r_aload_n (pc := 38) dX6_restore_38 rfl ?_
        refine gf_X6_44 (pc := 39) dX6_restore_39 rfl ?_
        refine r_bipush (v := nI 41) (pc := 42) dX6_restore_42 (by decide) ?_
        refine r_iload_n (pc := 44) dX6_restore_44 rfl ?_
        first | with_reducible refine r_imulN (pc := 45) dX6_restore_45 ?_ | refine r_imul (pc := 45) dX6_restore_45 ?_
        refine r_iload_n (pc := 46) dX6_restore_46 rfl ?_
        first | with_reducible refine r_iaddN (pc := 47) dX6_restore_47 ?_ | refine r_iadd (pc := 47) dX6_restore_47 ?_
        refine r_iald (pc := 48) dX6_restore_48 rfl (show _ < 82 by omega) ?_
        refine r_iast (pc := 49) dX6_restore_49 rfl (show _ < 41 by omega) ?_
        first | refine r_inc [_, _, _] (pc := 50) dX6_restore_50 rfl (nI_inc _) (by decide) rfl rfl ?_ | refine r_inc [_, _, _] (pc := 50) dX6_restore_50 rfl rfl (by decide) rfl rfl ?_
        refine r_goto (tgt := 27) (pc := 53) dX6_restore_53 (by decide) ?_
        exact V.bk (ih (j + 1) (by omega) (by omega)) (by rw [mset_setA]; exact congrArg _ (pt_s _ (fun z => M 12 (41 * k + z)) _)) (by (repeat (first | exact wk_0 | refine wk_n ?_ | refine wk_s rfl ?_)); done)
    · refine r_ldc (pc := 22) dX6_restore_22 lk_X6_169 ?_
      exact r_iret (pc := 24) dX6_restore_24 rfl (by subst hPP; exact (Or.inr ⟨k, hkb, rfl, Or.inl ⟨h19, rfl, rfl⟩⟩))
  · have g7 : ¬ rgG 0 1 x := fun z => h7 (rg_mpr z (by omega))
    refine r_ldc (pc := 10) dX6_restore_10 lk_X6_67 ?_
    exact r_iret (pc := 12) dX6_restore_12 rfl (by subst hPP; exact (Or.inl ⟨g7, rfl, rfl⟩))
set_option maxHeartbeats 4000000 in
set_option maxRecDepth 100000 in
theorem c_X6_undo (l : Launch) (G : Gx) (M : Mem) (a : Nat) (ha : M 0 19 = nI a) (ha24 : a ≤ 24) : Con l G yX6_undo cX6_undo 2 (some .int) 0 0 [.ref (gA G 0)] M (fun v M' => (a = 0 ∧ rI cState M v M') ∨ (0 < a ∧ rI (nI (a - 1)) (undoM M a) v M')) := by
  refine Con.ofV [some (.ref (gA G 0)), none] RX6 (by decide) rfl (Nat.le_of_ble_eq_true rfl) rfl ?_
  intro κ hl hG hk0 hn0
  subst hl hG
  have hcs : κ.k ≤ 0 ∧ κ.n ≤ 0 := ⟨Nat.le_of_eq hk0, Nat.le_of_eq hn0⟩
  generalize hPP : (fun v M' => (a = 0 ∧ rI cState M v M') ∨ (0 < a ∧ rI (nI (a - 1)) (undoM M a) v M')) = PP
  refine r_aload_n (pc := 0) dX6_undo_0 rfl ?_
  refine gf_X6_139 (pc := 1) dX6_undo_1 rfl ?_
  refine r_if_ne (tgt := 10) (pc := 4) dX6_undo_4 (by decide) (fun h4 => ?_) (fun h4 => ?_)
  · have ha1 : 0 < a := Nat.pos_of_ne_zero (fun z => h4 (by rw [ha, z]; rfl))
    refine r_aload_n (pc := 10) dX6_undo_10 rfl ?_
    refine r_dup (pc := 11) dX6_undo_11 rfl ?_
    refine gf_X6_139 (pc := 12) dX6_undo_12 rfl ?_
    refine r_is (nI a) ha ?_
    refine r_iconst (v := nI 1) (pc := 15) dX6_undo_15 (by decide) ?_
    first | (with_reducible refine r_isubN (pc := 16) dX6_undo_16 ?hle ?_; case hle => omega) | refine r_isub (pc := 16) dX6_undo_16 ?_
    refine pf_X6_139 (pc := 17) dX6_undo_17 rfl ?_
    refine r_iconst (v := nI 0) (pc := 20) dX6_undo_20 (by decide) ?_
    refine r_st_n [_, _] (pc := 21) dX6_undo_21 (by decide) rfl rfl ?_
    refine V.bk (loopV (fun (σ : Nat) => V κ cX6_undo RX6 2 (some .int) (rmx 0 0) (QM κ PP) (setA (mset M 0 19 (nI (a - 1))) 4 (pt (M 4) (fun z => M 9 (41 * (a - 1) + z)) σ)) 22 [some (.ref (gA κ.G 0)), some (.int (nI σ))] []) (fun (σ : Nat) => σ ≤ 41) (fun (σ : Nat) => 41 - σ) ?_ 0 (Nat.zero_le _)) (by rw [pt_0]; exact (setA_id' _ rfl).symm) (by (repeat (first | exact wk_0 | refine wk_n ?_ | refine wk_s rfl ?_)); done)
    rintro j hj ih
    show V κ cX6_undo RX6 2 (some .int) (rmx 0 0) (QM κ PP) (setA (mset M 0 19 (nI (a - 1))) 4 (pt (M 4) (fun z => M 9 (41 * (a - 1) + z)) j)) 22 [some (.ref (gA κ.G 0)), some (.int (nI j))] []
    refine r_iload_n (pc := 22) dX6_undo_22 rfl ?_
    refine r_bipush (v := nI 41) (pc := 23) dX6_undo_23 (by decide) ?_
    refine r_icmp_ge (tgt := 54) (pc := 25) dX6_undo_25 (by decide) (fun h25 => ?_) (fun h25 => ?_)
    · have h25 : 41 ≤ j := (nI_leI (by omega) (by omega)).mp h25
      obtain rfl : j = 41 := by omega
      refine r_aload_n (pc := 54) dX6_undo_54 rfl ?_
      refine gf_X6_139 (pc := 55) dX6_undo_55 rfl ?_
      refine r_is (nI (a - 1)) (by show upd (M 0) 19 (nI (a - 1)) 19 = _; rw [pk_us]) ?_
      exact r_iret (pc := 58) dX6_undo_58 rfl (by subst hPP; exact (Or.inr ⟨ha1, rfl, rfl⟩))
    · have h25 : j < 41 := Nat.not_le.mp (fun z => h25 ((nI_leI (by omega) (by omega)).mpr z))
      refine r_aload_n (pc := 28) dX6_undo_28 rfl ?_
      refine gf_X6_19 (pc := 29) dX6_undo_29 rfl ?_
      refine r_iload_n (pc := 32) dX6_undo_32 rfl ?_
      refine r_aload_n (pc := 33) dX6_undo_33 rfl ?_
      refine gf_X6_34 (pc := 34) dX6_undo_34 rfl ?_
      refine r_bipush (v := nI 41) (pc := 37) dX6_undo_37 (by decide) ?_
      refine r_aload_n (pc := 39) dX6_undo_39 rfl ?_
      refine gf_X6_139 (pc := 40) dX6_undo_40 rfl ?_
      refine r_is (nI (a - 1)) (by first | rfl | (show upd (M 0) 19 (nI (a - 1)) 19 = _; rw [pk_us])) ?_
      first | with_reducible refine r_imulN (pc := 43) dX6_undo_43 ?_ | refine r_imul (pc := 43) dX6_undo_43 ?_
      refine r_iload_n (pc := 44) dX6_undo_44 rfl ?_
      first | with_reducible refine r_iaddN (pc := 45) dX6_undo_45 ?_ | refine r_iadd (pc := 45) dX6_undo_45 ?_
      refine r_iald (pc := 46) dX6_undo_46 rfl (show _ < 984 by omega) ?_
      refine r_iast (pc := 47) dX6_undo_47 rfl (show _ < 41 by omega) ?_
      first | refine r_inc [_, _] (pc := 48) dX6_undo_48 rfl (nI_inc _) (by decide) rfl rfl ?_ | refine r_inc [_, _] (pc := 48) dX6_undo_48 rfl rfl (by decide) rfl rfl ?_
      refine r_goto (tgt := 22) (pc := 51) dX6_undo_51 (by decide) ?_
      exact V.bk (ih (j + 1) (by omega) (by omega)) (by rw [mset_setA]; exact congrArg _ (pt_s _ (fun z => M 9 (41 * (a - 1) + z)) _)) (by (repeat (first | exact wk_0 | refine wk_n ?_ | refine wk_s rfl ?_)); done)
  · have g4 : a = 0 := (nI_eq (by omega) (by omega)).mp ((ha.symm.trans h4).trans nI_0.symm)
    refine r_ldc (pc := 7) dX6_undo_7 lk_X6_169 ?_
    exact r_iret (pc := 9) dX6_undo_9 rfl (by subst hPP; exact (Or.inl ⟨g4, rfl, rfl⟩))
set_option maxHeartbeats 4000000 in
set_option maxRecDepth 100000 in
theorem c_X6_begin (l : Launch) (G : Gx) (M : Mem) (v : Int32) (ht : trOK M) : Con l G yX6_begin cX6_begin 2 none 0 0 [.ref (gA G 0), .int v] M (rV (btM M v)) := by
  refine Con.ofV [some (.ref (gA G 0)), some (.int v)] RX6 (by decide) rfl (Nat.le_of_ble_eq_true rfl) rfl ?_
  intro κ hl hG hk0 hn0
  subst hl hG
  have hcs : κ.k ≤ 0 ∧ κ.n ≤ 0 := ⟨Nat.le_of_eq hk0, Nat.le_of_eq hn0⟩
  obtain ⟨t, ht1, ht2⟩ := ht
  refine r_aload_n (pc := 0) dX6_begin_0 rfl ?_
  refine gf_X6_248 (pc := 1) dX6_begin_1 rfl ?_
  refine r_bipush (v := nI 16) (pc := 4) dX6_begin_4 (by decide) ?_
  refine r_icmp_ge (tgt := 29) (pc := 6) dX6_begin_6 (by decide) (fun h6 => ?_) (fun h6 => ?_)
  · have e9 : btM M v = M := if_pos h6
    exact r_vret (pc := 29) dX6_begin_29 rfl ⟨rfl, by rw [e9]; try rfl⟩
  · have h6n : t < 16 := Nat.not_le.mp (fun z => h6 (by rw [ht2]; exact nI_le z (by omega)))
    have e9 : btM M v = mset (mset M 13 t v) 0 24 (M 0 24 + nI 1) := by rw [btM, if_neg h6, ht2, nI_clamp (by omega)]
    refine r_aload_n (pc := 9) dX6_begin_9 rfl ?_
    refine gf_X6_47 (pc := 10) dX6_begin_10 rfl ?_
    refine r_aload_n (pc := 13) dX6_begin_13 rfl ?_
    refine gf_X6_248 (pc := 14) dX6_begin_14 rfl ?_
    refine r_is (nI t) ht2 ?_
    refine r_iload_n (pc := 17) dX6_begin_17 rfl ?_
    refine r_iast (pc := 18) dX6_begin_18 rfl (show _ < 16 by omega) ?_
    refine r_aload_n (pc := 19) dX6_begin_19 rfl ?_
    refine r_dup (pc := 20) dX6_begin_20 rfl ?_
    refine gf_X6_248 (pc := 21) dX6_begin_21 rfl ?_

    refine r_iconst (v := nI 1) (pc := 24) dX6_begin_24 (by decide) ?_
    first | with_reducible refine r_iaddN (pc := 25) dX6_begin_25 ?_ | refine r_iadd (pc := 25) dX6_begin_25 ?_
    refine pf_X6_248 (pc := 26) dX6_begin_26 rfl ?_
    exact r_vret (pc := 29) dX6_begin_29 rfl ⟨rfl, by rw [e9]; try rfl⟩
set_option maxHeartbeats 4000000 in
set_option maxRecDepth 100000 in
theorem c_X6_lent (l : Launch) (G : Gx) (M : Mem) (w b : Nat) (hw : w < 6) (hb : b < 100) (ht : trOK M) : Con l G yX6_lent cX6_lent 3 (some .int) 1 21 [.ref (gA G 0), .int (nI w), .int (nI b)] M (rI (if b = 10 then M 4 (11 + w) else nI w) (btM M (nI b))) := by
  refine Con.ofV [some (.ref (gA G 0)), some (.int (nI w)), some (.int (nI b))] RX6 (by decide) rfl (Nat.le_of_ble_eq_true rfl) rfl ?_
  intro κ hl hG hk0 hn0
  subst hl hG
  have hcs : κ.k ≤ 0 ∧ κ.n ≤ 0 := ⟨Nat.le_of_eq hk0, Nat.le_of_eq hn0⟩
  refine r_aload_n (pc := 0) dX6_lent_0 rfl ?_
  refine r_iload_n (pc := 1) dX6_lent_1 rfl ?_
  refine iv_X6_251 (c_X6_begin _ _ _ _ ht) (pc := 2) dX6_lent_2 rfl ⟨Nat.le_of_ble_eq_true rfl, Nat.le_of_ble_eq_true rfl⟩ (Nat.le_of_ble_eq_true rfl) hcs (kV ?_)
  refine r_iload_n (pc := 5) dX6_lent_5 rfl ?_
  refine r_bipush (v := nI 10) (pc := 6) dX6_lent_6 (by decide) ?_
  refine r_icmp_ne (tgt := 23) (pc := 8) dX6_lent_8 (by decide) (fun h8 => ?_) (fun h8 => ?_)
  · have h8 : b ≠ 10 := fun z => h8 (by rw [z])
    refine r_iload_n (pc := 23) dX6_lent_23 rfl ?_
    exact r_iret (pc := 24) dX6_lent_24 rfl ⟨by first | rw [if_pos h8, btM_4] | rw [if_neg h8], rfl⟩
  · have h8 : b = 10 := (nI_eq (by omega) (by omega)).mp h8
    refine r_aload_n (pc := 11) dX6_lent_11 rfl ?_
    refine gf_X6_19 (pc := 12) dX6_lent_12 rfl ?_
    refine r_bipush (v := nI 11) (pc := 15) dX6_lent_15 (by decide) ?_
    refine r_iload_n (pc := 17) dX6_lent_17 rfl ?_
    first | with_reducible refine r_iaddN (pc := 18) dX6_lent_18 ?_ | refine r_iadd (pc := 18) dX6_lent_18 ?_
    refine r_iald (pc := 19) dX6_lent_19 rfl (show _ < 41 by omega) ?_
    refine r_goto (tgt := 24) (pc := 20) dX6_lent_20 (by decide) ?_
    exact r_iret (pc := 24) dX6_lent_24 rfl ⟨by first | rw [if_pos h8, btM_4] | rw [if_neg h8], rfl⟩
set_option maxHeartbeats 4000000 in
set_option maxRecDepth 100000 in
theorem c_X6_plainMark (l : Launch) (G : Gx) (M : Mem) (w : Nat) (hw : w < 6) (ht : trOK M) : Con l G yX6_plainMark cX6_plainMark 2 (some .int) 2 43 [.ref (gA G 0), .int (nI w)] M (rI (nI w + M 4 (29 + w)) (btL M [21, 20])) := by
  refine Con.ofV [some (.ref (gA G 0)), some (.int (nI w))] RX6 (by decide) rfl (Nat.le_of_ble_eq_true rfl) rfl ?_
  intro κ hl hG hk0 hn0
  subst hl hG
  have hcs : κ.k ≤ 0 ∧ κ.n ≤ 0 := ⟨Nat.le_of_eq hk0, Nat.le_of_eq hn0⟩
  refine r_aload_n (pc := 0) dX6_plainMark_0 rfl ?_
  refine r_bipush (v := nI 21) (pc := 1) dX6_plainMark_1 (by decide) ?_
  refine iv_X6_251 (c_X6_begin _ _ _ _ ht) (pc := 3) dX6_plainMark_3 rfl ⟨Nat.le_of_ble_eq_true rfl, Nat.le_of_ble_eq_true rfl⟩ (Nat.le_of_ble_eq_true rfl) hcs (kV ?_)
  refine r_aload_n (pc := 6) dX6_plainMark_6 rfl ?_
  refine r_iload_n (pc := 7) dX6_plainMark_7 rfl ?_
  refine r_bipush (v := nI 20) (pc := 8) dX6_plainMark_8 (by decide) ?_
  refine iv_X6_254 (c_X6_lent _ _ _ _ _ (by omega) (by omega) (btM_ok ht _)) (pc := 10) dX6_plainMark_10 rfl ⟨Nat.le_of_ble_eq_true rfl, Nat.le_of_ble_eq_true rfl⟩ (Nat.le_of_ble_eq_true rfl) hcs (kI ?_)
  refine r_is (nI w) (if_neg (by decide)) ?_
  refine r_aload_n (pc := 13) dX6_plainMark_13 rfl ?_
  refine gf_X6_19 (pc := 14) dX6_plainMark_14 rfl ?_
  refine r_bipush (v := nI 29) (pc := 17) dX6_plainMark_17 (by decide) ?_
  refine r_iload_n (pc := 19) dX6_plainMark_19 rfl ?_
  first | with_reducible refine r_iaddN (pc := 20) dX6_plainMark_20 ?_ | refine r_iadd (pc := 20) dX6_plainMark_20 ?_
  refine r_iald (pc := 21) dX6_plainMark_21 rfl (show _ < 41 by omega) ?_
  refine r_is (M 4 (29 + w)) (by rw [btM_4, btM_4]) ?_
  first | with_reducible refine r_iaddN (pc := 22) dX6_plainMark_22 ?_ | refine r_iadd (pc := 22) dX6_plainMark_22 ?_
  exact r_iret (pc := 23) dX6_plainMark_23 rfl ⟨rfl, rfl⟩
set_option maxHeartbeats 4000000 in
set_option maxRecDepth 100000 in
theorem c_X6_oakSize (l : Launch) (G : Gx) (M : Mem) (w : Nat) (hw : w < 6) (ht : trOK M) : Con l G yX6_oakSize cX6_oakSize 2 (some .int) 2 43 [.ref (gA G 0), .int (nI w)] M (rI (M 4 (11 + w) - nI 100) (btL M [13, 10])) := by
  refine Con.ofV [some (.ref (gA G 0)), some (.int (nI w))] RX6 (by decide) rfl (Nat.le_of_ble_eq_true rfl) rfl ?_
  intro κ hl hG hk0 hn0
  subst hl hG
  have hcs : κ.k ≤ 0 ∧ κ.n ≤ 0 := ⟨Nat.le_of_eq hk0, Nat.le_of_eq hn0⟩
  refine r_aload_n (pc := 0) dX6_oakSize_0 rfl ?_
  refine r_bipush (v := nI 13) (pc := 1) dX6_oakSize_1 (by decide) ?_
  refine iv_X6_251 (c_X6_begin _ _ _ _ ht) (pc := 3) dX6_oakSize_3 rfl ⟨Nat.le_of_ble_eq_true rfl, Nat.le_of_ble_eq_true rfl⟩ (Nat.le_of_ble_eq_true rfl) hcs (kV ?_)
  refine r_aload_n (pc := 6) dX6_oakSize_6 rfl ?_
  refine r_iload_n (pc := 7) dX6_oakSize_7 rfl ?_
  refine r_bipush (v := nI 10) (pc := 8) dX6_oakSize_8 (by decide) ?_
  refine iv_X6_254 (c_X6_lent _ _ _ _ _ (by omega) (by omega) (btM_ok ht _)) (pc := 10) dX6_oakSize_10 rfl ⟨Nat.le_of_ble_eq_true rfl, Nat.le_of_ble_eq_true rfl⟩ (Nat.le_of_ble_eq_true rfl) hcs (kI ?_)
  refine r_is (M 4 (11 + w)) ((if_pos rfl).trans (by rw [btM_4])) ?_
  refine r_bipush (v := nI 100) (pc := 13) dX6_oakSize_13 (by decide) ?_
  first | (with_reducible refine r_isubN (pc := 15) dX6_oakSize_15 ?hle ?_; case hle => omega) | refine r_isub (pc := 15) dX6_oakSize_15 ?_
  exact r_iret (pc := 16) dX6_oakSize_16 rfl ⟨rfl, rfl⟩
set_option maxHeartbeats 4000000 in
set_option maxRecDepth 100000 in
theorem c_X6_sizeOfOak (l : Launch) (G : Gx) (M : Mem) (w : Nat) (hw : w < 6) (ht : trOK M) : Con l G yX6_sizeOfOak cX6_sizeOfOak 2 (some .int) 3 64 [.ref (gA G 0), .int (nI w)] M (rI (okV (M 4 (5 + w)) (M 4 (11 + w))) (btL M (okL (M 4 (5 + w))))) := by
  refine Con.ofV [some (.ref (gA G 0)), some (.int (nI w))] RX6 (by decide) rfl (Nat.le_of_ble_eq_true rfl) rfl ?_
  intro κ hl hG hk0 hn0
  subst hl hG
  have hcs : κ.k ≤ 0 ∧ κ.n ≤ 0 := ⟨Nat.le_of_eq hk0, Nat.le_of_eq hn0⟩
  refine r_aload_n (pc := 0) dX6_sizeOfOak_0 rfl ?_
  refine gf_X6_19 (pc := 1) dX6_sizeOfOak_1 rfl ?_
  refine r_iconst (v := nI 5) (pc := 4) dX6_sizeOfOak_4 (by decide) ?_
  refine r_iload_n (pc := 5) dX6_sizeOfOak_5 rfl ?_
  first | with_reducible refine r_iaddN (pc := 6) dX6_sizeOfOak_6 ?_ | refine r_iadd (pc := 6) dX6_sizeOfOak_6 ?_
  refine r_iald (pc := 7) dX6_sizeOfOak_7 rfl (show _ < 41 by omega) ?_
  refine r_iconst (v := nI 5) (pc := 8) dX6_sizeOfOak_8 (by decide) ?_
  refine r_icmp_ne (tgt := 26) (pc := 9) dX6_sizeOfOak_9 (by decide) (fun h9 => ?_) (fun h9 => ?_)
  · refine r_aload_n (pc := 26) dX6_sizeOfOak_26 rfl ?_
    refine r_iload_n (pc := 27) dX6_sizeOfOak_27 rfl ?_
    refine iv_X6_257 (c_X6_oakSize _ _ _ _ (by omega) ht) (pc := 28) dX6_sizeOfOak_28 rfl ⟨Nat.le_of_ble_eq_true rfl, Nat.le_of_ble_eq_true rfl⟩ (Nat.le_of_ble_eq_true rfl) hcs (kI ?_)
    exact r_iret (pc := 31) dX6_sizeOfOak_31 rfl ⟨by first | rw [okV, if_neg h9] | rw [okV, if_pos h9, btM_4], by first | rw [okL, if_neg h9] | (rw [okL, if_pos h9]; rfl)⟩
  · refine r_aload_n (pc := 12) dX6_sizeOfOak_12 rfl ?_
    refine r_bipush (v := nI 14) (pc := 13) dX6_sizeOfOak_13 (by decide) ?_
    refine iv_X6_251 (c_X6_begin _ _ _ _ ht) (pc := 15) dX6_sizeOfOak_15 rfl ⟨Nat.le_of_ble_eq_true rfl, Nat.le_of_ble_eq_true rfl⟩ (Nat.le_of_ble_eq_true rfl) hcs (kV ?_)
    refine r_iconst (v := nI 2) (pc := 18) dX6_sizeOfOak_18 (by decide) ?_
    refine r_aload_n (pc := 19) dX6_sizeOfOak_19 rfl ?_
    refine r_iload_n (pc := 20) dX6_sizeOfOak_20 rfl ?_
    refine iv_X6_257 (c_X6_oakSize _ _ _ _ (by omega) (btM_ok ht _)) (pc := 21) dX6_sizeOfOak_21 rfl ⟨Nat.le_of_ble_eq_true rfl, Nat.le_of_ble_eq_true rfl⟩ (Nat.le_of_ble_eq_true rfl) hcs (kI ?_)
    first | with_reducible refine r_imulN (pc := 24) dX6_sizeOfOak_24 ?_ | refine r_imul (pc := 24) dX6_sizeOfOak_24 ?_
    exact r_iret (pc := 25) dX6_sizeOfOak_25 rfl ⟨by first | rw [okV, if_neg h9] | rw [okV, if_pos h9, btM_4], by first | rw [okL, if_neg h9] | (rw [okL, if_pos h9]; rfl)⟩
set_option maxHeartbeats 4000000 in
set_option maxRecDepth 100000 in
theorem c_X6_markOf (l : Launch) (G : Gx) (M : Mem) (w : Nat) (hw : w < 6) (ht : trOK M) : Con l G yX6_markOf cX6_markOf 4 (some .int) 4 85 [.ref (gA G 0), .int (nI w)] M (rI (mkV (M 4 (5 + w)) (M 4 (11 + w)) (M 4 (29 + w)) w) (btL M (mkL (M 4 (5 + w))))) := by
  refine Con.ofV [some (.ref (gA G 0)), some (.int (nI w)), none, none] RX6 (by decide) rfl (Nat.le_of_ble_eq_true rfl) rfl ?_
  intro κ hl hG hk0 hn0
  subst hl hG
  have hcs : κ.k ≤ 0 ∧ κ.n ≤ 0 := ⟨Nat.le_of_eq hk0, Nat.le_of_eq hn0⟩
  refine r_aload_n (pc := 0) dX6_markOf_0 rfl ?_
  refine gf_X6_19 (pc := 1) dX6_markOf_1 rfl ?_
  refine r_iconst (v := nI 5) (pc := 4) dX6_markOf_4 (by decide) ?_
  refine r_iload_n (pc := 5) dX6_markOf_5 rfl ?_
  first | with_reducible refine r_iaddN (pc := 6) dX6_markOf_6 ?_ | refine r_iadd (pc := 6) dX6_markOf_6 ?_
  refine r_iald (pc := 7) dX6_markOf_7 rfl (show _ < 41 by omega) ?_
  refine r_st_n [_, _, _, _] (pc := 8) dX6_markOf_8 (by decide) rfl rfl ?_
  refine r_iload_n (pc := 9) dX6_markOf_9 rfl ?_
  refine r_iconst (v := nI 2) (pc := 10) dX6_markOf_10 (by decide) ?_
  refine r_icmp_ne (tgt := 28) (pc := 11) dX6_markOf_11 (by decide) (fun h11 => ?_) (fun h11 => ?_)
  · refine r_iload_n (pc := 28) dX6_markOf_28 rfl ?_
    refine r_iconst (v := nI 3) (pc := 29) dX6_markOf_29 (by decide) ?_
    refine r_icmp_ne (tgt := 49) (pc := 30) dX6_markOf_30 (by decide) (fun h30 => ?_) (fun h30 => ?_)
    · refine r_iload_n (pc := 49) dX6_markOf_49 rfl ?_
      refine r_iconst (v := nI 1) (pc := 50) dX6_markOf_50 (by decide) ?_
      refine r_icmp_ne (tgt := 60) (pc := 51) dX6_markOf_51 (by decide) (fun h51 => ?_) (fun h51 => ?_)
      · refine r_aload_n (pc := 60) dX6_markOf_60 rfl ?_
        refine r_bipush (v := nI 23) (pc := 61) dX6_markOf_61 (by decide) ?_
        refine iv_X6_251 (c_X6_begin _ _ _ _ ht) (pc := 63) dX6_markOf_63 rfl ⟨Nat.le_of_ble_eq_true rfl, Nat.le_of_ble_eq_true rfl⟩ (Nat.le_of_ble_eq_true rfl) hcs (kV ?_)
        refine r_aload_n (pc := 66) dX6_markOf_66 rfl ?_
        refine r_iload_n (pc := 67) dX6_markOf_67 rfl ?_
        refine r_bipush (v := nI 20) (pc := 68) dX6_markOf_68 (by decide) ?_
        refine iv_X6_254 (c_X6_lent _ _ _ _ _ (by omega) (by omega) (btM_ok ht _)) (pc := 70) dX6_markOf_70 rfl ⟨Nat.le_of_ble_eq_true rfl, Nat.le_of_ble_eq_true rfl⟩ (Nat.le_of_ble_eq_true rfl) hcs (kI ?_)
        refine r_is (nI w) (if_neg (by decide)) ?_
        refine r_st_n [_, _, _, _] (pc := 73) dX6_markOf_73 (by decide) rfl rfl ?_
        refine r_iload_n (pc := 74) dX6_markOf_74 rfl ?_
        refine r_aload_n (pc := 75) dX6_markOf_75 rfl ?_
        refine r_iload_n (pc := 76) dX6_markOf_76 rfl ?_
        refine iv_X6_263 (c_X6_sizeOfOak _ _ _ _ (by omega) (btM_ok (btM_ok ht _) _)) (pc := 77) dX6_markOf_77 rfl ⟨Nat.le_of_ble_eq_true rfl, Nat.le_of_ble_eq_true rfl⟩ (Nat.le_of_ble_eq_true rfl) hcs (kI ?_)
        first | (with_reducible refine r_isubN (pc := 80) dX6_markOf_80 ?hle ?_; case hle => omega) | refine r_isub (pc := 80) dX6_markOf_80 ?_
        exact r_iret (pc := 81) dX6_markOf_81 rfl ⟨by rw [mkV, if_neg h11, if_neg h30, if_neg h51, btM_4, btM_4], by rw [mkL, if_neg h11, if_neg h30, if_neg h51, btM_4, btM_4]; rfl⟩
      · refine r_aload_n (pc := 54) dX6_markOf_54 rfl ?_
        refine r_iload_n (pc := 55) dX6_markOf_55 rfl ?_
        refine iv_X6_260 (c_X6_plainMark _ _ _ _ (by omega) ht) (pc := 56) dX6_markOf_56 rfl ⟨Nat.le_of_ble_eq_true rfl, Nat.le_of_ble_eq_true rfl⟩ (Nat.le_of_ble_eq_true rfl) hcs (kI ?_)
        exact r_iret (pc := 59) dX6_markOf_59 rfl ⟨by rw [mkV, if_neg h11, if_neg h30, if_pos h51], by rw [mkL, if_neg h11, if_neg h30, if_pos h51]⟩
    · refine r_aload_n (pc := 33) dX6_markOf_33 rfl ?_
      refine r_bipush (v := nI 22) (pc := 34) dX6_markOf_34 (by decide) ?_
      refine iv_X6_251 (c_X6_begin _ _ _ _ ht) (pc := 36) dX6_markOf_36 rfl ⟨Nat.le_of_ble_eq_true rfl, Nat.le_of_ble_eq_true rfl⟩ (Nat.le_of_ble_eq_true rfl) hcs (kV ?_)
      refine r_aload_n (pc := 39) dX6_markOf_39 rfl ?_
      refine r_iload_n (pc := 40) dX6_markOf_40 rfl ?_
      refine iv_X6_260 (c_X6_plainMark _ _ _ _ (by omega) (btM_ok ht _)) (pc := 41) dX6_markOf_41 rfl ⟨Nat.le_of_ble_eq_true rfl, Nat.le_of_ble_eq_true rfl⟩ (Nat.le_of_ble_eq_true rfl) hcs (kI ?_)
      refine r_sipush (v := nI 1000) (pc := 44) dX6_markOf_44 (by decide) ?_
      first | (with_reducible refine r_isubN (pc := 47) dX6_markOf_47 ?hle ?_; case hle => omega) | refine r_isub (pc := 47) dX6_markOf_47 ?_
      exact r_iret (pc := 48) dX6_markOf_48 rfl ⟨by rw [mkV, if_neg h11, if_pos h30, btM_4], by rw [mkL, if_neg h11, if_pos h30]; rfl⟩
  · refine r_aload_n (pc := 14) dX6_markOf_14 rfl ?_
    refine r_bipush (v := nI 24) (pc := 15) dX6_markOf_15 (by decide) ?_
    refine iv_X6_251 (c_X6_begin _ _ _ _ ht) (pc := 17) dX6_markOf_17 rfl ⟨Nat.le_of_ble_eq_true rfl, Nat.le_of_ble_eq_true rfl⟩ (Nat.le_of_ble_eq_true rfl) hcs (kV ?_)
    refine r_iconst (v := nI 2) (pc := 20) dX6_markOf_20 (by decide) ?_
    refine r_aload_n (pc := 21) dX6_markOf_21 rfl ?_
    refine r_iload_n (pc := 22) dX6_markOf_22 rfl ?_
    refine iv_X6_260 (c_X6_plainMark _ _ _ _ (by omega) (btM_ok ht _)) (pc := 23) dX6_markOf_23 rfl ⟨Nat.le_of_ble_eq_true rfl, Nat.le_of_ble_eq_true rfl⟩ (Nat.le_of_ble_eq_true rfl) hcs (kI ?_)
    first | with_reducible refine r_imulN (pc := 26) dX6_markOf_26 ?_ | refine r_imul (pc := 26) dX6_markOf_26 ?_
    exact r_iret (pc := 27) dX6_markOf_27 rfl ⟨by rw [mkV, if_pos h11, btM_4], by rw [mkL, if_pos h11]; rfl⟩
set_option maxHeartbeats 4000000 in
set_option maxRecDepth 100000 in
theorem c_X6_plainSize (l : Launch) (G : Gx) (M : Mem) (w : Nat) (hw : w < 6) (ht : trOK M) : Con l G yX6_plainSize cX6_plainSize 3 (some .int) 5 108 [.ref (gA G 0), .int (nI w)] M (rI (M 4 (11 + w) + mkV (M 4 (5 + w)) (M 4 (11 + w)) (M 4 (29 + w)) w) (btL M ([11, 10] ++ mkL (M 4 (5 + w))))) := by
  refine Con.ofV [some (.ref (gA G 0)), some (.int (nI w)), none] RX6 (by decide) rfl (Nat.le_of_ble_eq_true rfl) rfl ?_
  intro κ hl hG hk0 hn0
  subst hl hG
  have hcs : κ.k ≤ 0 ∧ κ.n ≤ 0 := ⟨Nat.le_of_eq hk0, Nat.le_of_eq hn0⟩
  refine r_aload_n (pc := 0) dX6_plainSize_0 rfl ?_
  refine r_bipush (v := nI 11) (pc := 1) dX6_plainSize_1 (by decide) ?_
  refine iv_X6_251 (c_X6_begin _ _ _ _ ht) (pc := 3) dX6_plainSize_3 rfl ⟨Nat.le_of_ble_eq_true rfl, Nat.le_of_ble_eq_true rfl⟩ (Nat.le_of_ble_eq_true rfl) hcs (kV ?_)
  refine r_aload_n (pc := 6) dX6_plainSize_6 rfl ?_
  refine r_iload_n (pc := 7) dX6_plainSize_7 rfl ?_
  refine r_bipush (v := nI 10) (pc := 8) dX6_plainSize_8 (by decide) ?_
  refine iv_X6_254 (c_X6_lent _ _ _ _ _ (by omega) (by omega) (btM_ok ht _)) (pc := 10) dX6_plainSize_10 rfl ⟨Nat.le_of_ble_eq_true rfl, Nat.le_of_ble_eq_true rfl⟩ (Nat.le_of_ble_eq_true rfl) hcs (kI ?_)
  refine r_is (M 4 (11 + w)) ((if_pos rfl).trans (by rw [btM_4])) ?_
  refine r_st_n [_, _, _] (pc := 13) dX6_plainSize_13 (by decide) rfl rfl ?_
  refine r_iload_n (pc := 14) dX6_plainSize_14 rfl ?_
  refine r_aload_n (pc := 15) dX6_plainSize_15 rfl ?_
  refine r_iload_n (pc := 16) dX6_plainSize_16 rfl ?_
  refine iv_X6_266 (c_X6_markOf _ _ _ _ (by omega) (btM_ok (btM_ok ht _) _)) (pc := 17) dX6_plainSize_17 rfl ⟨Nat.le_of_ble_eq_true rfl, Nat.le_of_ble_eq_true rfl⟩ (Nat.le_of_ble_eq_true rfl) hcs (kI ?_)
  first | with_reducible refine r_iaddN (pc := 20) dX6_plainSize_20 ?_ | refine r_iadd (pc := 20) dX6_plainSize_20 ?_
  exact r_iret (pc := 21) dX6_plainSize_21 rfl ⟨by rw [btM_4, btM_4], by rw [btM_4, btM_4]; rfl⟩
set_option maxHeartbeats 4000000 in
set_option maxRecDepth 100000 in
theorem c_X6_sizeOf (l : Launch) (G : Gx) (M : Mem) (w : Nat) (hw : w < 6) (ht : trOK M) : Con l G yX6_sizeOf cX6_sizeOf 3 (some .int) 6 130 [.ref (gA G 0), .int (nI w)] M (rI (szV (M 4 (5 + w)) (M 4 (11 + w)) (M 4 (29 + w)) w) (btL M (szL (M 4 (5 + w))))) := by
  refine Con.ofV [some (.ref (gA G 0)), some (.int (nI w)), none] RX6 (by decide) rfl (Nat.le_of_ble_eq_true rfl) rfl ?_
  intro κ hl hG hk0 hn0
  subst hl hG
  have hcs : κ.k ≤ 0 ∧ κ.n ≤ 0 := ⟨Nat.le_of_eq hk0, Nat.le_of_eq hn0⟩
  refine r_aload_n (pc := 0) dX6_sizeOf_0 rfl ?_
  refine gf_X6_19 (pc := 1) dX6_sizeOf_1 rfl ?_
  refine r_iconst (v := nI 5) (pc := 4) dX6_sizeOf_4 (by decide) ?_
  refine r_iload_n (pc := 5) dX6_sizeOf_5 rfl ?_
  first | with_reducible refine r_iaddN (pc := 6) dX6_sizeOf_6 ?_ | refine r_iadd (pc := 6) dX6_sizeOf_6 ?_
  refine r_iald (pc := 7) dX6_sizeOf_7 rfl (show _ < 41 by omega) ?_
  refine r_st_n [_, _, _] (pc := 8) dX6_sizeOf_8 (by decide) rfl rfl ?_
  refine r_iload_n (pc := 9) dX6_sizeOf_9 rfl ?_
  refine r_iconst (v := nI 2) (pc := 10) dX6_sizeOf_10 (by decide) ?_
  refine r_icmp_ne (tgt := 27) (pc := 11) dX6_sizeOf_11 (by decide) (fun h11 => ?_) (fun h11 => ?_)
  · refine r_iload_n (pc := 27) dX6_sizeOf_27 rfl ?_
    refine r_iconst (v := nI 4) (pc := 28) dX6_sizeOf_28 (by decide) ?_
    refine r_icmp_lt (tgt := 40) (pc := 29) dX6_sizeOf_29 (by decide) (fun h29 => ?_) (fun h29 => ?_)
    · refine r_aload_n (pc := 40) dX6_sizeOf_40 rfl ?_
      refine r_iload_n (pc := 41) dX6_sizeOf_41 rfl ?_
      refine iv_X6_269 (c_X6_plainSize _ _ _ _ (by omega) ht) (pc := 42) dX6_sizeOf_42 rfl ⟨Nat.le_of_ble_eq_true rfl, Nat.le_of_ble_eq_true rfl⟩ (Nat.le_of_ble_eq_true rfl) hcs (kI ?_)
      exact r_iret (pc := 45) dX6_sizeOf_45 rfl ⟨by first | rw [szV, if_neg h11, if_pos h29] | rw [szV, if_neg h11, if_neg h29], by first | rw [szL, if_neg h11, if_pos h29] | rw [szL, if_neg h11, if_neg h29]⟩
    · refine r_aload_n (pc := 32) dX6_sizeOf_32 rfl ?_
      refine r_iload_n (pc := 33) dX6_sizeOf_33 rfl ?_
      refine iv_X6_263 (c_X6_sizeOfOak _ _ _ _ (by omega) ht) (pc := 34) dX6_sizeOf_34 rfl ⟨Nat.le_of_ble_eq_true rfl, Nat.le_of_ble_eq_true rfl⟩ (Nat.le_of_ble_eq_true rfl) hcs (kI ?_)
      refine r_goto (tgt := 45) (pc := 37) dX6_sizeOf_37 (by decide) ?_
      exact r_iret (pc := 45) dX6_sizeOf_45 rfl ⟨by first | rw [szV, if_neg h11, if_pos h29] | rw [szV, if_neg h11, if_neg h29], by first | rw [szL, if_neg h11, if_pos h29] | rw [szL, if_neg h11, if_neg h29]⟩
  · refine r_aload_n (pc := 14) dX6_sizeOf_14 rfl ?_
    refine r_bipush (v := nI 12) (pc := 15) dX6_sizeOf_15 (by decide) ?_
    refine iv_X6_251 (c_X6_begin _ _ _ _ ht) (pc := 17) dX6_sizeOf_17 rfl ⟨Nat.le_of_ble_eq_true rfl, Nat.le_of_ble_eq_true rfl⟩ (Nat.le_of_ble_eq_true rfl) hcs (kV ?_)
    refine r_aload_n (pc := 20) dX6_sizeOf_20 rfl ?_
    refine r_iload_n (pc := 21) dX6_sizeOf_21 rfl ?_
    refine iv_X6_269 (c_X6_plainSize _ _ _ _ (by omega) (btM_ok ht _)) (pc := 22) dX6_sizeOf_22 rfl ⟨Nat.le_of_ble_eq_true rfl, Nat.le_of_ble_eq_true rfl⟩ (Nat.le_of_ble_eq_true rfl) hcs (kI ?_)
    refine r_ineg (pc := 25) dX6_sizeOf_25 ?_
    exact r_iret (pc := 26) dX6_sizeOf_26 rfl ⟨by rw [szV, if_pos h11, btM_4], by rw [szL, if_pos h11, btM_4]; rfl⟩
set_option maxHeartbeats 4000000 in
set_option maxRecDepth 100000 in
theorem c_X6_ask (l : Launch) (G : Gx) (M : Mem) (x y : Int32) (n : Nat) (hn : M 4 2 = nI n) (hn6 : n ≤ 6) : Con l G yX6_ask cX6_ask 3 (some .int) 7 152 [.ref (gA G 0), .int x, .int y] M (fun v M' => (¬ (chG n x ∧ rgG 0 1 y) ∧ rI cBad M v M') ∨ (∃ k q, k < n ∧ q ≤ 1 ∧ x = nI k ∧ y = nI q ∧ rI (if q = 0 then szV (M 4 (5 + k)) (M 4 (11 + k)) (M 4 (29 + k)) k else mkV (M 4 (5 + k)) (M 4 (11 + k)) (M 4 (29 + k)) k) (btL (mset M 0 24 (nI 0)) (if q = 0 then szL (M 4 (5 + k)) else mkL (M 4 (5 + k)))) v M')) := by
  refine Con.ofV [some (.ref (gA G 0)), some (.int x), some (.int y)] RX6 (by decide) rfl (Nat.le_of_ble_eq_true rfl) rfl ?_
  intro κ hl hG hk0 hn0
  subst hl hG
  have hcs : κ.k ≤ 0 ∧ κ.n ≤ 0 := ⟨Nat.le_of_eq hk0, Nat.le_of_eq hn0⟩
  generalize hPP : (fun v M' => (¬ (chG n x ∧ rgG 0 1 y) ∧ rI cBad M v M') ∨ (∃ k q, k < n ∧ q ≤ 1 ∧ x = nI k ∧ y = nI q ∧ rI (if q = 0 then szV (M 4 (5 + k)) (M 4 (11 + k)) (M 4 (29 + k)) k else mkV (M 4 (5 + k)) (M 4 (11 + k)) (M 4 (29 + k)) k) (btL (mset M 0 24 (nI 0)) (if q = 0 then szL (M 4 (5 + k)) else mkL (M 4 (5 + k)))) v M')) = PP
  refine r_aload_n (pc := 0) dX6_ask_0 rfl ?_
  refine r_iload_n (pc := 1) dX6_ask_1 rfl ?_
  refine iv_X6_178 (c_X6_isChair _ _ _ _) (pc := 2) dX6_ask_2 rfl ⟨Nat.le_of_ble_eq_true rfl, Nat.le_of_ble_eq_true rfl⟩ (Nat.le_of_ble_eq_true rfl) hcs (kI ?_)
  refine r_ifeq_b (tgt := 18) (pc := 5) dX6_ask_5 (by decide) (fun h5 => ?_) (fun h5 => ?_)
  · have g5 : ¬ chG n x := fun z => h5 (ch_mpr hn hn6 z)
    refine r_ldc (pc := 18) dX6_ask_18 lk_X6_67 ?_
    exact r_iret (pc := 20) dX6_ask_20 rfl (by subst hPP; exact (Or.inl ⟨by first | exact fun z => g5 z.1 | exact fun z => g15 z.2, rfl, rfl⟩))
  · obtain ⟨k, hk, rfl⟩ := ch_mp hn hn6 h5
    refine r_iload_n (pc := 8) dX6_ask_8 rfl ?_
    refine r_i2l (pc := 9) dX6_ask_9 ?_
    refine r_lconst (v := (nI 0).toInt64) (pc := 10) dX6_ask_10 (by decide) ?_
    refine r_lconst (v := (nI 1).toInt64) (pc := 11) dX6_ask_11 (by decide) ?_
    refine iv_X6_57 (c_X6_inI _ _ _ _ _ _) (pc := 12) dX6_ask_12 ⟨Nat.le_of_ble_eq_true rfl, Nat.le_of_ble_eq_true rfl⟩ (Nat.le_of_ble_eq_true rfl) hcs (kI ?_)
    refine r_ifne_b (tgt := 21) (pc := 15) dX6_ask_15 (by decide) (fun h15 => ?_) (fun h15 => ?_)
    · obtain ⟨q, hqa, hqb, rfl⟩ := rg_mp (a := 0) (b := 1) h15 (by omega) (by omega)
      refine r_aload_n (pc := 21) dX6_ask_21 rfl ?_
      refine r_iconst (v := nI 0) (pc := 22) dX6_ask_22 (by decide) ?_
      refine pf_X6_248 (pc := 23) dX6_ask_23 rfl ?_
      refine r_iload_n (pc := 26) dX6_ask_26 rfl ?_
      refine r_if_ne (tgt := 38) (pc := 27) dX6_ask_27 (by decide) (fun h27 => ?_) (fun h27 => ?_)
      · have h27 : q ≠ 0 := fun z => h27 (by rw [z]; rfl)
        refine r_aload_n (pc := 38) dX6_ask_38 rfl ?_
        refine r_iload_n (pc := 39) dX6_ask_39 rfl ?_
        refine iv_X6_266 (c_X6_markOf _ _ _ _ (by omega) ⟨0, by omega, by rw [mset_eq, pk_us]⟩) (pc := 40) dX6_ask_40 rfl ⟨Nat.le_of_ble_eq_true rfl, Nat.le_of_ble_eq_true rfl⟩ (Nat.le_of_ble_eq_true rfl) hcs (kI ?_)
        exact r_iret (pc := 43) dX6_ask_43 rfl (by subst hPP; exact (Or.inr ⟨k, q, hk, hqb, rfl, rfl, by first | rw [if_pos h27]; rfl | rw [if_neg h27]; rfl, by first | rw [if_pos h27]; rfl | rw [if_neg h27]; rfl⟩))
      · have h27 : q = 0 := (nI_eq (by omega) (by omega)).mp (h27.trans nI_0.symm)
        refine r_aload_n (pc := 30) dX6_ask_30 rfl ?_
        refine r_iload_n (pc := 31) dX6_ask_31 rfl ?_
        refine iv_X6_272 (c_X6_sizeOf _ _ _ _ (by omega) ⟨0, by omega, by rw [mset_eq, pk_us]⟩) (pc := 32) dX6_ask_32 rfl ⟨Nat.le_of_ble_eq_true rfl, Nat.le_of_ble_eq_true rfl⟩ (Nat.le_of_ble_eq_true rfl) hcs (kI ?_)
        refine r_goto (tgt := 43) (pc := 35) dX6_ask_35 (by decide) ?_
        exact r_iret (pc := 43) dX6_ask_43 rfl (by subst hPP; exact (Or.inr ⟨k, q, hk, hqb, rfl, rfl, by first | rw [if_pos h27]; rfl | rw [if_neg h27]; rfl, by first | rw [if_pos h27]; rfl | rw [if_neg h27]; rfl⟩))
    · have g15 : ¬ rgG 0 1 y := fun z => h15 (rg_mpr z (by omega))
      refine r_ldc (pc := 18) dX6_ask_18 lk_X6_67 ?_
      exact r_iret (pc := 20) dX6_ask_20 rfl (by subst hPP; exact (Or.inl ⟨by first | exact fun z => g5 z.1 | exact fun z => g15 z.2, rfl, rfl⟩))
set_option maxHeartbeats 4000000 in
set_option maxRecDepth 100000 in
theorem c_X6_trace (l : Launch) (G : Gx) (M : Mem) (x : Int32) (t : Nat) (ht16 : t ≤ 16) (ht : M 0 24 = nI t) : Con l G yX6_trace cX6_trace 2 (some .int) 1 25 [.ref (gA G 0), .int x] M (fun v M' => (¬ itG t 1 x ∧ rI cNone M v M') ∨ (∃ q, q < t ∧ x = nI q ∧ rI (M 13 q) M v M')) := by
  refine Con.ofV [some (.ref (gA G 0)), some (.int x)] RX6 (by decide) rfl (Nat.le_of_ble_eq_true rfl) rfl ?_
  intro κ hl hG hk0 hn0
  subst hl hG
  have hcs : κ.k ≤ 0 ∧ κ.n ≤ 0 := ⟨Nat.le_of_eq hk0, Nat.le_of_eq hn0⟩
  generalize hPP : (fun v M' => (¬ itG t 1 x ∧ rI cNone M v M') ∨ (∃ q, q < t ∧ x = nI q ∧ rI (M 13 q) M v M')) = PP
  refine r_iload_n (pc := 0) dX6_trace_0 rfl ?_
  refine r_i2l (pc := 1) dX6_trace_1 ?_
  refine r_lconst (v := (nI 0).toInt64) (pc := 2) dX6_trace_2 (by decide) ?_
  refine r_aload_n (pc := 3) dX6_trace_3 rfl ?_
  refine gf_X6_248 (pc := 4) dX6_trace_4 rfl ?_
  refine r_is (nI t) ht ?_
  refine r_iconst (v := nI 1) (pc := 7) dX6_trace_7 (by decide) ?_
  refine r_isub (pc := 8) dX6_trace_8 ?_
  refine r_i2l (pc := 9) dX6_trace_9 ?_
  refine iv_X6_57 (c_X6_inI _ _ _ _ _ _) (pc := 10) dX6_trace_10 ⟨Nat.le_of_ble_eq_true rfl, Nat.le_of_ble_eq_true rfl⟩ (Nat.le_of_ble_eq_true rfl) hcs (kI ?_)
  refine r_ifeq_b (tgt := 25) (pc := 13) dX6_trace_13 (by decide) (fun h13 => ?_) (fun h13 => ?_)
  · have g13 : ¬ itG t 1 x := fun z => h13 (it_mpr (by omega) (by omega) z)
    refine r_ldc (pc := 25) dX6_trace_25 lk_X6_149 ?_
    exact r_iret (pc := 27) dX6_trace_27 rfl (by subst hPP; exact (by first | exact Or.inr ⟨q, by omega, rfl, rfl, rfl⟩ | exact Or.inl ⟨g13, rfl, rfl⟩))
  · obtain ⟨q, rfl, hq⟩ := it_mp (s := t) (m := 1) (by omega) (by omega) h13
    refine r_aload_n (pc := 16) dX6_trace_16 rfl ?_
    refine gf_X6_47 (pc := 17) dX6_trace_17 rfl ?_
    refine r_iload_n (pc := 20) dX6_trace_20 rfl ?_
    refine r_iald (pc := 21) dX6_trace_21 rfl (show _ < 16 by omega) ?_
    refine r_goto (tgt := 27) (pc := 22) dX6_trace_22 (by decide) ?_
    exact r_iret (pc := 27) dX6_trace_27 rfl (by subst hPP; exact (by first | exact Or.inr ⟨q, by omega, rfl, rfl, rfl⟩ | exact Or.inl ⟨g13, rfl, rfl⟩))
set_option maxHeartbeats 4000000 in
set_option maxRecDepth 100000 in
theorem c_X6_status (l : Launch) (G : Gx) (M : Mem)  : Con l G yX6_status cX6_status 1 (some .int) 0 0 [.ref (gA G 0)] M (rI (M 0 3) M) := by
  refine Con.ofV [some (.ref (gA G 0))] RX6 (by decide) rfl (Nat.le_of_ble_eq_true rfl) rfl ?_
  intro κ hl hG hk0 hn0
  subst hl hG
  have hcs : κ.k ≤ 0 ∧ κ.n ≤ 0 := ⟨Nat.le_of_eq hk0, Nat.le_of_eq hn0⟩
  refine r_aload_n (pc := 0) dX6_status_0 rfl ?_
  refine gf_X6_50 (pc := 1) dX6_status_1 rfl ?_
  exact r_iret (pc := 4) dX6_status_4 rfl ⟨rfl, rfl⟩
set_option maxHeartbeats 4000000 in
set_option maxRecDepth 100000 in
theorem c_X6_fault (l : Launch) (G : Gx) (M : Mem)  : Con l G yX6_fault cX6_fault 1 (some .int) 0 0 [.ref (gA G 0)] M (rI (M 0 9) M) := by
  refine Con.ofV [some (.ref (gA G 0))] RX6 (by decide) rfl (Nat.le_of_ble_eq_true rfl) rfl ?_
  intro κ hl hG hk0 hn0
  subst hl hG
  have hcs : κ.k ≤ 0 ∧ κ.n ≤ 0 := ⟨Nat.le_of_eq hk0, Nat.le_of_eq hn0⟩
  refine r_aload_n (pc := 0) dX6_fault_0 rfl ?_
  refine gf_X6_131 (pc := 1) dX6_fault_1 rfl ?_
  exact r_iret (pc := 4) dX6_fault_4 rfl ⟨rfl, rfl⟩
set_option maxHeartbeats 4000000 in
set_option maxRecDepth 100000 in
theorem c_X6_count (l : Launch) (G : Gx) (M : Mem) (x : Int32) (n : Nat) (hn : M 4 2 = nI n) (hn6 : n ≤ 6) : Con l G yX6_count cX6_count 4 (some .int) 1 23 [.ref (gA G 0), .int x] M (fun v M' => (¬ rgG 0 7 x ∧ rI cBad M v M') ∨ (∃ q, q ≤ 7 ∧ x = nI q ∧ rI (cntV M n q) M v M')) := by
  refine Con.ofV [some (.ref (gA G 0)), some (.int x), none, none] RX6 (by decide) rfl (Nat.le_of_ble_eq_true rfl) rfl ?_
  intro κ hl hG hk0 hn0
  subst hl hG
  have hcs : κ.k ≤ 0 ∧ κ.n ≤ 0 := ⟨Nat.le_of_eq hk0, Nat.le_of_eq hn0⟩
  generalize hPP : (fun v M' => (¬ rgG 0 7 x ∧ rI cBad M v M') ∨ (∃ q, q ≤ 7 ∧ x = nI q ∧ rI (cntV M n q) M v M')) = PP
  refine r_iconst (v := nI 0) (pc := 0) dX6_count_0 (by decide) ?_
  refine r_st_n [_, _, _, _] (pc := 1) dX6_count_1 (by decide) rfl rfl ?_
  refine r_iconst (v := nI 0) (pc := 2) dX6_count_2 (by decide) ?_
  refine r_st_n [_, _, _, _] (pc := 3) dX6_count_3 (by decide) rfl rfl ?_
  refine V.bk (loopV (fun (σ : Nat) => V κ cX6_count RX6 4 (some .int) (rmx 1 23) (QM κ PP) M 4 [some (.ref (gA κ.G 0)), some (.int x), some (.int (rcN (M 2) σ)), some (.int (nI σ))] []) (fun (σ : Nat) => σ ≤ 8) (fun (σ : Nat) => 8 - σ) ?_ 0 (Nat.zero_le _)) rfl (by (repeat (first | exact wk_0 | refine wk_n ?_ | refine wk_s rfl ?_)); done)
  rintro j hj ih
  show V κ cX6_count RX6 4 (some .int) (rmx 1 23) (QM κ PP) M 4 [some (.ref (gA κ.G 0)), some (.int x), some (.int (rcN (M 2) j)), some (.int (nI j))] []
  refine r_iload_n (pc := 4) dX6_count_4 rfl ?_
  refine r_bipush (v := nI 8) (pc := 5) dX6_count_5 (by decide) ?_
  refine r_icmp_ge (tgt := 33) (pc := 7) dX6_count_7 (by decide) (fun h7 => ?_) (fun h7 => ?_)
  · have h7 : 8 ≤ j := (nI_leI (by omega) (by omega)).mp h7
    obtain rfl : j = 8 := by omega
    refine r_iload_n (pc := 33) dX6_count_33 rfl ?_
    refine r_tsw (lo := 0) (hi := 7) (tgt := 127) (pc := 34) dX6_count_34 (by decide) (fun h34 => ?_) (fun q34 a34 b34 h34 => ?_)
    · have g34 : ¬ rgG 0 7 x := by rintro ⟨q, h1, h2, h3⟩; exact h34 q h1 h2 (by omega) h3
      refine r_ldc (pc := 127) dX6_count_127 lk_X6_67 ?_
      exact r_iret (pc := 129) dX6_count_129 rfl (by subst hPP; exact (Or.inl ⟨g34, rfl, rfl⟩))
    · rcases (show q34 = 0 ∨ q34 = 1 ∨ q34 = 2 ∨ q34 = 3 ∨ q34 = 4 ∨ q34 = 5 ∨ q34 = 6 ∨ q34 = 7 by omega) with rfl | rfl | rfl | rfl | rfl | rfl | rfl | rfl
      · refine r_tableIn (off := 46) (tgt := 80) (pc := 34) dX6_count_34 (by decide) (by decide) rfl (by decide) ?_
        refine r_iload_n (pc := 80) dX6_count_80 rfl ?_
        exact r_iret (pc := 81) dX6_count_81 rfl (by subst hPP; exact (Or.inr ⟨0, by omega, h34, rfl, rfl⟩))
      · refine r_tableIn (off := 48) (tgt := 82) (pc := 34) dX6_count_34 (by decide) (by decide) rfl (by decide) ?_
        refine r_aload_n (pc := 82) dX6_count_82 rfl ?_
        refine gf_X6_19 (pc := 83) dX6_count_83 rfl ?_
        refine r_iconst (v := nI 2) (pc := 86) dX6_count_86 (by decide) ?_
        refine r_iald (pc := 87) dX6_count_87 rfl (show _ < 41 by omega) ?_
        exact r_iret (pc := 88) dX6_count_88 rfl (by subst hPP; exact (Or.inr ⟨1, by omega, h34, rfl, rfl⟩))
      · refine r_tableIn (off := 55) (tgt := 89) (pc := 34) dX6_count_34 (by decide) (by decide) rfl (by decide) ?_
        refine r_aload_n (pc := 89) dX6_count_89 rfl ?_
        refine gf_X6_19 (pc := 90) dX6_count_90 rfl ?_
        refine r_iconst (v := nI 3) (pc := 93) dX6_count_93 (by decide) ?_
        refine r_iald (pc := 94) dX6_count_94 rfl (show _ < 41 by omega) ?_
        exact r_iret (pc := 95) dX6_count_95 rfl (by subst hPP; exact (Or.inr ⟨2, by omega, h34, rfl, rfl⟩))
      · refine r_tableIn (off := 62) (tgt := 96) (pc := 34) dX6_count_34 (by decide) (by decide) rfl (by decide) ?_
        refine r_aload_n (pc := 96) dX6_count_96 rfl ?_
        refine gf_X6_19 (pc := 97) dX6_count_97 rfl ?_
        refine r_iconst (v := nI 4) (pc := 100) dX6_count_100 (by decide) ?_
        refine r_iald (pc := 101) dX6_count_101 rfl (show _ < 41 by omega) ?_
        exact r_iret (pc := 102) dX6_count_102 rfl (by subst hPP; exact (Or.inr ⟨3, by omega, h34, rfl, rfl⟩))
      · refine r_tableIn (off := 69) (tgt := 103) (pc := 34) dX6_count_34 (by decide) (by decide) rfl (by decide) ?_
        refine r_aload_n (pc := 103) dX6_count_103 rfl ?_
        refine r_bipush (v := nI 11) (pc := 104) dX6_count_104 (by decide) ?_
        refine iv_X6_209 (c_X6_sumOf _ _ _ _ n (by omega) hn hn6) (pc := 106) dX6_count_106 rfl ⟨Nat.le_of_ble_eq_true rfl, Nat.le_of_ble_eq_true rfl⟩ (Nat.le_of_ble_eq_true rfl) hcs (kI ?_)
        exact r_iret (pc := 109) dX6_count_109 rfl (by subst hPP; exact (Or.inr ⟨4, by omega, h34, rfl, rfl⟩))
      · refine r_tableIn (off := 76) (tgt := 110) (pc := 34) dX6_count_34 (by decide) (by decide) rfl (by decide) ?_
        refine r_aload_n (pc := 110) dX6_count_110 rfl ?_
        refine r_bipush (v := nI 35) (pc := 111) dX6_count_111 (by decide) ?_
        refine iv_X6_209 (c_X6_sumOf _ _ _ _ n (by omega) hn hn6) (pc := 113) dX6_count_113 rfl ⟨Nat.le_of_ble_eq_true rfl, Nat.le_of_ble_eq_true rfl⟩ (Nat.le_of_ble_eq_true rfl) hcs (kI ?_)
        exact r_iret (pc := 116) dX6_count_116 rfl (by subst hPP; exact (Or.inr ⟨5, by omega, h34, rfl, rfl⟩))
      · refine r_tableIn (off := 83) (tgt := 117) (pc := 34) dX6_count_34 (by decide) (by decide) rfl (by decide) ?_
        refine r_aload_n (pc := 117) dX6_count_117 rfl ?_
        refine gf_X6_139 (pc := 118) dX6_count_118 rfl ?_
        exact r_iret (pc := 121) dX6_count_121 rfl (by subst hPP; exact (Or.inr ⟨6, by omega, h34, rfl, rfl⟩))
      · refine r_tableIn (off := 88) (tgt := 122) (pc := 34) dX6_count_34 (by decide) (by decide) rfl (by decide) ?_
        refine r_aload_n (pc := 122) dX6_count_122 rfl ?_
        refine gf_X6_81 (pc := 123) dX6_count_123 rfl ?_
        exact r_iret (pc := 126) dX6_count_126 rfl (by subst hPP; exact (Or.inr ⟨7, by omega, h34, rfl, rfl⟩))
  · have h7 : j < 8 := Nat.not_le.mp (fun z => h7 ((nI_leI (by omega) (by omega)).mpr z))
    refine r_iload_n (pc := 10) dX6_count_10 rfl ?_
    refine r_aload_n (pc := 11) dX6_count_11 rfl ?_
    refine gf_X6_13 (pc := 12) dX6_count_12 rfl ?_
    refine r_iload_n (pc := 15) dX6_count_15 rfl ?_
    refine r_iald (pc := 16) dX6_count_16 rfl (show _ < 8 by omega) ?_
    refine t_if_lt (tgt := 24) (J := 25) (a := ?pA17x1) (b := ?pB17x1) (pc := 17) dX6_count_17 (by decide) (fun k17x1 => ?pT17x1) (fun k17x1 => ?pF17x1) ?pK17x1
    case pT17x1 =>
      refine r_iconst (v := nI 0) (pc := 24) dX6_count_24 (by decide) ?_
      exact k17x1
    case pF17x1 =>
      refine r_iconst (v := nI 1) (pc := 20) dX6_count_20 (by decide) ?_
      refine r_goto (tgt := 25) (pc := 21) dX6_count_21 (by decide) ?_
      exact k17x1
    case pK17x1 =>
      first | with_reducible refine r_iaddN (pc := 25) dX6_count_25 ?_ | refine r_iadd (pc := 25) dX6_count_25 ?_
      refine r_st_n [_, _, _, _] (pc := 26) dX6_count_26 (by decide) rfl rfl ?_
      first | refine r_inc [_, _, _, _] (pc := 27) dX6_count_27 rfl (nI_inc _) (by decide) rfl rfl ?_ | refine r_inc [_, _, _, _] (pc := 27) dX6_count_27 rfl rfl (by decide) rfl rfl ?_
      refine r_goto (tgt := 4) (pc := 30) dX6_count_30 (by decide) ?_
      exact ih (j + 1) (by omega) (by omega)
set_option maxHeartbeats 4000000 in
set_option maxRecDepth 100000 in
theorem c_X6_feed (l : Launch) (G : Gx) (M : Mem) (x : Int32) (b : Nat) (hb : M 0 8 = nI b) (hb120 : b ≤ 120) : Con l G yX6_feed cX6_feed 2 (some .int) 1 25 [.ref (gA G 0), .int x] M (fun v M' => (¬ rgG 0 255 x ∧ rI cBad M v M') ∨ (∃ q, q ≤ 255 ∧ x = nI q ∧ ((b = 120 ∧ rI cFull M v M') ∨ (b < 120 ∧ rI (nI (b + 1)) (mset (mset M 6 b (nI q)) 0 8 (nI (b + 1))) v M')))) := by
  refine Con.ofV [some (.ref (gA G 0)), some (.int x)] RX6 (by decide) rfl (Nat.le_of_ble_eq_true rfl) rfl ?_
  intro κ hl hG hk0 hn0
  subst hl hG
  have hcs : κ.k ≤ 0 ∧ κ.n ≤ 0 := ⟨Nat.le_of_eq hk0, Nat.le_of_eq hn0⟩
  generalize hPP : (fun v M' => (¬ rgG 0 255 x ∧ rI cBad M v M') ∨ (∃ q, q ≤ 255 ∧ x = nI q ∧ ((b = 120 ∧ rI cFull M v M') ∨ (b < 120 ∧ rI (nI (b + 1)) (mset (mset M 6 b (nI q)) 0 8 (nI (b + 1))) v M')))) = PP
  refine r_iload_n (pc := 0) dX6_feed_0 rfl ?_
  refine r_i2l (pc := 1) dX6_feed_1 ?_
  refine r_lconst (v := (nI 0).toInt64) (pc := 2) dX6_feed_2 (by decide) ?_
  refine r_ldc2 (pc := 3) dX6_feed_3 lk_X6_79 ?_
  refine iv_X6_57 (c_X6_inI _ _ _ _ _ _) (pc := 6) dX6_feed_6 ⟨Nat.le_of_ble_eq_true rfl, Nat.le_of_ble_eq_true rfl⟩ (Nat.le_of_ble_eq_true rfl) hcs (kI ?_)
  refine r_ifne_b (tgt := 15) (pc := 9) dX6_feed_9 (by decide) (fun h9 => ?_) (fun h9 => ?_)
  · obtain ⟨q, hqa, hqb, rfl⟩ := rg_mp (a := 0) (b := 255) h9 (by omega) (by omega)
    refine r_aload_n (pc := 15) dX6_feed_15 rfl ?_
    refine gf_X6_81 (pc := 16) dX6_feed_16 rfl ?_
    refine r_is (nI b) hb ?_
    refine r_bipush (v := nI 120) (pc := 19) dX6_feed_19 (by decide) ?_
    refine r_icmp_ne (tgt := 27) (pc := 21) dX6_feed_21 (by decide) (fun h21 => ?_) (fun h21 => ?_)
    · have h21 : b < 120 := Nat.lt_of_le_of_ne hb120 (fun z => h21 (by rw [z]))
      refine r_aload_n (pc := 27) dX6_feed_27 rfl ?_
      refine gf_X6_25 (pc := 28) dX6_feed_28 rfl ?_
      refine r_aload_n (pc := 31) dX6_feed_31 rfl ?_
      refine gf_X6_81 (pc := 32) dX6_feed_32 rfl ?_
      refine r_is (nI b) hb ?_
      refine r_iload_n (pc := 35) dX6_feed_35 rfl ?_
      refine r_iast (pc := 36) dX6_feed_36 rfl (show _ < 120 by omega) ?_
      refine r_aload_n (pc := 37) dX6_feed_37 rfl ?_
      refine r_dup (pc := 38) dX6_feed_38 rfl ?_
      refine gf_X6_81 (pc := 39) dX6_feed_39 rfl ?_
      refine r_is (nI b) hb ?_
      refine r_iconst (v := nI 1) (pc := 42) dX6_feed_42 (by decide) ?_
      first | with_reducible refine r_iaddN (pc := 43) dX6_feed_43 ?_ | refine r_iadd (pc := 43) dX6_feed_43 ?_
      refine pf_X6_81 (pc := 44) dX6_feed_44 rfl ?_
      refine r_aload_n (pc := 47) dX6_feed_47 rfl ?_
      refine gf_X6_81 (pc := 48) dX6_feed_48 rfl ?_
      refine r_is (nI (b + 1)) (by rw [mset_eq, pk_us]) ?_
      exact r_iret (pc := 51) dX6_feed_51 rfl (by subst hPP; exact (Or.inr ⟨q, hqb, rfl, Or.inr ⟨h21, rfl, rfl⟩⟩))
    · have h21 : b = 120 := (nI_eq (by omega) (by omega)).mp h21
      refine r_ldc (pc := 24) dX6_feed_24 lk_X6_84 ?_
      exact r_iret (pc := 26) dX6_feed_26 rfl (by subst hPP; exact (Or.inr ⟨q, hqb, rfl, Or.inl ⟨h21, rfl, rfl⟩⟩))
  · have g9 : ¬ rgG 0 255 x := fun z => h9 (rg_mpr z (by omega))
    refine r_ldc (pc := 12) dX6_feed_12 lk_X6_67 ?_
    exact r_iret (pc := 14) dX6_feed_14 rfl (by subst hPP; exact (Or.inl ⟨g9, rfl, rfl⟩))
