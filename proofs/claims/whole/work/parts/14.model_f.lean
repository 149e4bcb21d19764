theorem t01n {p : Prop} [Decidable p] {a b : Int32} : (if (if p then nI 0 else nI 1) = 0 then a else b) = if p then a else b := by
  by_cases h : p
  · rw [if_pos h, if_pos h, if_pos (by decide)]
  · rw [if_neg h, if_neg h, if_neg (by decide)]
/-- the search for the first i with p: what is found when those below j are looked at -/
def fstI (p : Nat → Prop) (fnd : Int32) (j : Nat) : Prop := (fnd = cNone ∧ ∀ i, i < j → ¬ p i) ∨ (∃ i, j = i + 1 ∧ fnd = nI i ∧ p i ∧ ∀ i', i' < i → ¬ p i')
def fstE (p : Nat → Prop) (B : Nat) (ans : Int32) : Prop := (∃ i, i < B ∧ p i ∧ (∀ i', i' < i → ¬ p i') ∧ ans = nI i) ∨ ((∀ i, i < B → ¬ p i) ∧ ans = cNone)
theorem fstI_0 (p : Nat → Prop) : fstI p cNone 0 := Or.inl ⟨rfl, fun i h => absurd h (Nat.not_lt_zero i)⟩
theorem fstI_n {p : Nat → Prop} {fnd : Int32} {j : Nat} (h : fstI p fnd j) (hj : j ≤ 100) (hf : ¬ 0 ≤ fnd) : fnd = cNone ∧ ∀ i, i < j → ¬ p i := by
  rcases h with h | ⟨i, e, h, -⟩
  · exact h
  · rw [h] at hf
    exact absurd (nI_pos' (by omega)) hf
theorem fstI_s1 {p : Nat → Prop} {fnd : Int32} {j : Nat} {c : Prop} [Decidable c] (h : fstI p fnd j) (hj : j ≤ 100) (hf : ¬ 0 ≤ fnd) (hc : c ↔ p j) : fstI p (if c then nI j else fnd) (j + 1) := by
  obtain ⟨h1, h2⟩ := fstI_n h hj hf
  by_cases e : c
  · rw [if_pos e]
    exact Or.inr ⟨j, rfl, rfl, hc.mp e, h2⟩
  · rw [if_neg e]
    exact Or.inl ⟨h1, lt_s h2 (fun z => e (hc.mpr z))⟩
theorem fstI_s2 {p : Nat → Prop} {fnd : Int32} {j : Nat} {c : Prop} [Decidable c] (h : fstI p fnd j) (hj : j ≤ 100) (hf : ¬ 0 ≤ fnd) (hc : c ↔ ¬ p j) : fstI p (if c then fnd else nI j) (j + 1) := by
  obtain ⟨h1, h2⟩ := fstI_n h hj hf
  by_cases e : c
  · rw [if_pos e]
    exact Or.inl ⟨h1, lt_s h2 (hc.mp e)⟩
  · rw [if_neg e]
    exact Or.inr ⟨j, rfl, rfl, Classical.byContradiction (fun z => e (hc.mpr z)), h2⟩
theorem fstI_e {p : Nat → Prop} {fnd : Int32} {j B : Nat} (h : fstI p fnd j) (hj : j = B ∨ (0 ≤ fnd ∧ j ≤ B)) : fstE p B fnd := by
  rcases h with ⟨h1, h2⟩ | ⟨i, e, h1, h2, h3⟩
  · rcases hj with hj | hj
    · subst hj
      exact Or.inr ⟨h2, h1⟩
    · rw [h1] at hj
      exact absurd hj.1 (by decide)
  · exact Or.inl ⟨i, by omega, h2, h3, h1⟩
/-- of those below j the one with the fewest bits, the first of them, with p -/
noncomputable def gdB (p : Nat → Prop) : Nat → Int32
  | 0 => cNone
  | j + 1 => @ite Int32 ((gdB p j < 0 ∨ pop j < pop (gdB p j).toNatClampNeg) ∧ p j) (Classical.propDecidable _) (nI j) (gdB p j)
theorem gdB_is (p : Nat → Prop) : ∀ j, gdB p j = cNone ∨ ∃ b, b < j ∧ gdB p j = nI b
  | 0 => Or.inl rfl
  | j + 1 => by
    by_cases h : (gdB p j < 0 ∨ pop j < pop (gdB p j).toNatClampNeg) ∧ p j
    · exact Or.inr ⟨j, Nat.lt_succ_self _, if_pos h⟩
    · have e : gdB p (j + 1) = gdB p j := if_neg h
      rw [e]
      rcases gdB_is p j with h | ⟨b, h1, h2⟩
      · exact Or.inl h
      · exact Or.inr ⟨b, by omega, h2⟩
theorem gdB_nn {p : Nat → Prop} {j : Nat} (h : ¬ gdB p j < 0) : ∃ b, b < j ∧ gdB p j = nI b := by
  rcases gdB_is p j with e | e
  · rw [e] at h
    exact absurd (by decide) h
  · exact e
theorem gdB_y {p : Nat → Prop} {j : Nat} {c : Prop} [Decidable c] (h : gdB p j < 0 ∨ pop j < pop (gdB p j).toNatClampNeg) (hc : c ↔ ¬ p j) : gdB p (j + 1) = if c then gdB p j else nI j := by
  by_cases e : c
  · rw [if_pos e]
    exact if_neg (fun z => hc.mp e z.2)
  · rw [if_neg e]
    exact if_pos ⟨h, Classical.byContradiction (fun z => e (hc.mpr z))⟩
theorem gdB_n {p : Nat → Prop} {j : Nat} (h : ¬ (gdB p j < 0 ∨ pop j < pop (gdB p j).toNatClampNeg)) : gdB p (j + 1) = gdB p j := if_neg (fun z => h z.1)
theorem shl1 : ∀ n : Nat, n ≤ 6 → nI 1 <<< (nI n &&& 31) = nI (2 ^ n) := by decide
theorem two6 : ∀ n : Nat, n ≤ 6 → 2 ^ n ≤ 64 := by decide
/-- the first with the most -/
def bwB (f : Nat → Int32) : Nat → Int32 × Int32
  | 0 => (nI 0, -1)
  | j + 1 => (if f j ≤ (bwB f j).2 then (bwB f j).1 else nI j, if f j ≤ (bwB f j).2 then (bwB f j).2 else f j)
set_option maxHeartbeats 4000000 in
set_option maxRecDepth 100000 in
theorem c_X6_ahead (l : Launch) (G : Gx) (M : Mem) (x y z : Int32) (n : Nat) (hn : M 4 2 = nI n) (hn6 : n ≤ 6) : Con l G yX6_ahead cX6_ahead 5 (some .int) 7 156 [.ref (gA G 0), .int x, .int y, .int z] M (fun v M' => (¬ (chG n x ∧ rgG 0 60 y ∧ rgG 0 2 z) ∧ rI cBad M v M') ∨ (∃ k q p, k < n ∧ q ≤ 60 ∧ p ≤ 2 ∧ x = nI k ∧ y = nI q ∧ z = nI p ∧ qI (aheadV (goP (M 4) n q) n k p) (qm M) v M')) := by
  refine Con.ofV [some (.ref (gA G 0)), some (.int x), some (.int y), some (.int z), none] RX6 (by decide) rfl (Nat.le_of_ble_eq_true rfl) rfl ?_
  intro κ hl hG hk0 hn0
  subst hl hG
  have hcs : κ.k ≤ 0 ∧ κ.n ≤ 0 := ⟨Nat.le_of_eq hk0, Nat.le_of_eq hn0⟩
  generalize hPP : (fun v M' => (¬ (chG n x ∧ rgG 0 60 y ∧ rgG 0 2 z) ∧ rI cBad M v M') ∨ (∃ k q p, k < n ∧ q ≤ 60 ∧ p ≤ 2 ∧ x = nI k ∧ y = nI q ∧ z = nI p ∧ qI (aheadV (goP (M 4) n q) n k p) (qm M) v M')) = PP
  refine r_aload_n (pc := 0) dX6_ahead_0 rfl ?_
  refine r_iload_n (pc := 1) dX6_ahead_1 rfl ?_
  refine iv_X6_178 (c_X6_isChair _ _ _ _) (pc := 2) dX6_ahead_2 rfl ⟨Nat.le_of_ble_eq_true rfl, Nat.le_of_ble_eq_true rfl⟩ (Nat.le_of_ble_eq_true rfl) hcs (kI ?_)
  refine r_ifeq_b (tgt := 32) (pc := 5) dX6_ahead_5 (by decide) (fun h5 => ?_) (fun h5 => ?_)
  · have g5 : ¬ chG n x := fun z => h5 (ch_mpr hn hn6 z)
    refine r_ldc (pc := 32) dX6_ahead_32 lk_X6_67 ?_
    exact r_iret (pc := 34) dX6_ahead_34 rfl (by subst hPP; exact (Or.inl ⟨by first | exact fun z => g5 z.1 | exact fun z => g17 z.2.1 | exact fun z => g29 z.2.2, rfl, rfl⟩))
  · obtain ⟨k, hk, rfl⟩ := ch_mp hn hn6 h5
    refine r_iload_n (pc := 8) dX6_ahead_8 rfl ?_
    refine r_i2l (pc := 9) dX6_ahead_9 ?_
    refine r_lconst (v := (nI 0).toInt64) (pc := 10) dX6_ahead_10 (by decide) ?_
    refine r_ldc2 (pc := 11) dX6_ahead_11 lk_X6_202 ?_
    refine iv_X6_57 (c_X6_inI _ _ _ _ _ _) (pc := 14) dX6_ahead_14 ⟨Nat.le_of_ble_eq_true rfl, Nat.le_of_ble_eq_true rfl⟩ (Nat.le_of_ble_eq_true rfl) hcs (kI ?_)
    refine r_ifeq_b (tgt := 32) (pc := 17) dX6_ahead_17 (by decide) (fun h17 => ?_) (fun h17 => ?_)
    · have g17 : ¬ rgG 0 60 y := fun z => h17 (rg_mpr z (by omega))
      refine r_ldc (pc := 32) dX6_ahead_32 lk_X6_67 ?_
      exact r_iret (pc := 34) dX6_ahead_34 rfl (by subst hPP; exact (Or.inl ⟨by first | exact fun z => g5 z.1 | exact fun z => g17 z.2.1 | exact fun z => g29 z.2.2, rfl, rfl⟩))
    · obtain ⟨q, hqa, hqb, rfl⟩ := rg_mp (a := 0) (b := 60) h17 (by omega) (by omega)
      refine r_iload_n (pc := 20) dX6_ahead_20 rfl ?_
      refine r_i2l (pc := 21) dX6_ahead_21 ?_
      refine r_lconst (v := (nI 0).toInt64) (pc := 22) dX6_ahead_22 (by decide) ?_
      refine r_ldc2 (pc := 23) dX6_ahead_23 lk_X6_65 ?_
      refine iv_X6_57 (c_X6_inI _ _ _ _ _ _) (pc := 26) dX6_ahead_26 ⟨Nat.le_of_ble_eq_true rfl, Nat.le_of_ble_eq_true rfl⟩ (Nat.le_of_ble_eq_true rfl) hcs (kI ?_)
      refine r_ifne_b (tgt := 35) (pc := 29) dX6_ahead_29 (by decide) (fun h29 => ?_) (fun h29 => ?_)
      · obtain ⟨p, hpa, hpb, rfl⟩ := rg_mp (a := 0) (b := 2) h29 (by omega) (by omega)
        refine r_aload_n (pc := 35) dX6_ahead_35 rfl ?_
        refine iv_X6_204 (d_X6_putAside _ _ _) (pc := 36) dX6_ahead_36 rfl ⟨Nat.le_of_ble_eq_true rfl, Nat.le_of_ble_eq_true rfl⟩ (Nat.le_of_ble_eq_true rfl) hcs (kqV (fun N36 r36 => ?_))
        refine r_aload_n (pc := 39) dX6_ahead_39 rfl ?_
        refine r_iload_n (pc := 40) dX6_ahead_40 rfl ?_
        refine iv_X6_196 (d_X6_goOn _ _ M _ (M 4) _ n (by omega) r36 hn hn6 (by omega)) (pc := 41) dX6_ahead_41 rfl ⟨Nat.le_of_ble_eq_true rfl, Nat.le_of_ble_eq_true rfl⟩ (Nat.le_of_ble_eq_true rfl) hcs (kqV (fun N41 r41 => ?_))
        have J78 : ∀ u : Int32, u = aheadV (goP (M 4) n q) n k p → V κ cX6_ahead RX6 5 (some .int) (rmx 7 156) (QM κ PP) N41 78 [some (.ref (gA κ.G 0)), some (.int (nI k)), some (.int (nI q)), some (.int (nI p)), none] [.int u] := by
          rintro _ rfl
          refine r_st [_, _, _, _, _] (pc := 78) dX6_ahead_78 (by decide) rfl rfl ?_
          refine r_aload_n (pc := 80) dX6_ahead_80 rfl ?_
          refine iv_X6_199 (d_X6_takeBack _ _ M _ _ r41) (pc := 81) dX6_ahead_81 rfl ⟨Nat.le_of_ble_eq_true rfl, Nat.le_of_ble_eq_true rfl⟩ (Nat.le_of_ble_eq_true rfl) hcs (kqV (fun N81 r81 => ?_))
          refine r_iload (pc := 84) dX6_ahead_84 rfl ?_
          exact r_iret (pc := 86) dX6_ahead_86 rfl (by subst hPP; exact (Or.inr ⟨k, q, p, hk, hqb, hpb, rfl, rfl, rfl, rfl, r81.qm⟩))
        refine r_iload_n (pc := 44) dX6_ahead_44 rfl ?_
        refine r_if_ne (tgt := 56) (pc := 45) dX6_ahead_45 (by decide) (fun h45 => ?_) (fun h45 => ?_)
        · have h45 : p ≠ 0 := fun z => h45 (by rw [z]; rfl)
          refine r_iload_n (pc := 56) dX6_ahead_56 rfl ?_
          refine r_iconst (v := nI 1) (pc := 57) dX6_ahead_57 (by decide) ?_
          refine r_icmp_ne (tgt := 69) (pc := 58) dX6_ahead_58 (by decide) (fun h58 => ?_) (fun h58 => ?_)
          · have h58 : p ≠ 1 := fun z => h58 (by rw [z])
            refine r_aload_n (pc := 69) dX6_ahead_69 rfl ?_
            refine gf_X6_19 (pc := 70) dX6_ahead_70 rfl ?_
            refine r_bipush (v := nI 11) (pc := 73) dX6_ahead_73 (by decide) ?_
            refine r_iload_n (pc := 75) dX6_ahead_75 rfl ?_
            first | with_reducible refine r_iaddN (pc := 76) dX6_ahead_76 ?_ | refine r_iadd (pc := 76) dX6_ahead_76 ?_
            refine r_iald (pc := 77) dX6_ahead_77 rfl (show _ < 41 by omega) ?_
            first
              | exact J78 _ rfl
              | exact J78 _ (by rw [aheadV, if_neg h45, if_neg h58, r41.1])
          · have h58 : p = 1 := (nI_eq (by omega) (by omega)).mp h58
            refine r_aload_n (pc := 61) dX6_ahead_61 rfl ?_
            refine r_iload_n (pc := 62) dX6_ahead_62 rfl ?_
            refine iv_X6_150 (c_X6_rankOf _ _ _ _ n (by omega) (r41.n2 ((goP_2 (M 4) n q).trans hn)) hn6) (pc := 63) dX6_ahead_63 rfl ⟨Nat.le_of_ble_eq_true rfl, Nat.le_of_ble_eq_true rfl⟩ (Nat.le_of_ble_eq_true rfl) hcs (kI ?_)
            refine r_is (aheadV (goP (M 4) n q) n k p) (by rw [aheadV, if_neg h45, if_pos h58, r41.1]) ?_
            refine r_goto (tgt := 78) (pc := 66) dX6_ahead_66 (by decide) ?_
            first
              | exact J78 _ rfl
              | exact J78 _ (by rw [aheadV, if_neg h45, if_neg h58, r41.1])
        · have h45 : p = 0 := (nI_eq (by omega) (by omega)).mp (h45.trans nI_0.symm)
          refine r_aload_n (pc := 48) dX6_ahead_48 rfl ?_
          refine r_iload_n (pc := 49) dX6_ahead_49 rfl ?_
          refine iv_X6_146 (c_X6_highOf _ _ _ _ (by omega)) (pc := 50) dX6_ahead_50 rfl ⟨Nat.le_of_ble_eq_true rfl, Nat.le_of_ble_eq_true rfl⟩ (Nat.le_of_ble_eq_true rfl) hcs (kI ?_)
          refine r_is (aheadV (goP (M 4) n q) n k p) (by rw [aheadV, if_pos h45, r41.1]) ?_
          refine r_goto (tgt := 78) (pc := 53) dX6_ahead_53 (by decide) ?_
          first
            | exact J78 _ rfl
            | exact J78 _ (by rw [aheadV, if_neg h45, if_neg h58, r41.1])
      · have g29 : ¬ rgG 0 2 z := fun z => h29 (rg_mpr z (by omega))
        refine r_ldc (pc := 32) dX6_ahead_32 lk_X6_67 ?_
        exact r_iret (pc := 34) dX6_ahead_34 rfl (by subst hPP; exact (Or.inl ⟨by first | exact fun z => g5 z.1 | exact fun z => g17 z.2.1 | exact fun z => g29 z.2.2, rfl, rfl⟩))
set_option maxHeartbeats 4000000 in
set_option maxRecDepth 100000 in
theorem c_X6_minister (l : Launch) (G : Gx) (M : Mem) (x : Int32) (n : Nat) (hn : M 4 2 = nI n) (hn6 : n ≤ 6) (ht : M 0 4 = 0 ↔ n = 0) : Con l G yX6_minister cX6_minister 3 (some .int) 7 156 [.ref (gA G 0), .int x] M (fun v M' => (n = 0 ∧ rI cState M v M') ∨ (0 < n ∧ ¬ (rgG 0 60 x) ∧ rI cBad M v M') ∨ (0 < n ∧ ∃ q, q ≤ 60 ∧ x = nI q ∧ qI (atN (goP (M 4) n q) n (nI 0) n) (qm M) v M')) := by
  refine Con.ofV [some (.ref (gA G 0)), some (.int x), none] RX6 (by decide) rfl (Nat.le_of_ble_eq_true rfl) rfl ?_
  intro κ hl hG hk0 hn0
  subst hl hG
  have hcs : κ.k ≤ 0 ∧ κ.n ≤ 0 := ⟨Nat.le_of_eq hk0, Nat.le_of_eq hn0⟩
  generalize hPP : (fun v M' => (n = 0 ∧ rI cState M v M') ∨ (0 < n ∧ ¬ (rgG 0 60 x) ∧ rI cBad M v M') ∨ (0 < n ∧ ∃ q, q ≤ 60 ∧ x = nI q ∧ qI (atN (goP (M 4) n q) n (nI 0) n) (qm M) v M')) = PP
  refine r_aload_n (pc := 0) dX6_minister_0 rfl ?_
  refine gf_X6_135 (pc := 1) dX6_minister_1 rfl ?_
  refine r_if_ne (tgt := 10) (pc := 4) dX6_minister_4 (by decide) (fun h4 => ?_) (fun h4 => ?_)
  · have hn1 : 0 < n := Nat.pos_of_ne_zero (fun z => h4 (ht.mpr z))
    refine r_iload_n (pc := 10) dX6_minister_10 rfl ?_
    refine r_i2l (pc := 11) dX6_minister_11 ?_
    refine r_lconst (v := (nI 0).toInt64) (pc := 12) dX6_minister_12 (by decide) ?_
    refine r_ldc2 (pc := 13) dX6_minister_13 lk_X6_202 ?_
    refine iv_X6_57 (c_X6_inI _ _ _ _ _ _) (pc := 16) dX6_minister_16 ⟨Nat.le_of_ble_eq_true rfl, Nat.le_of_ble_eq_true rfl⟩ (Nat.le_of_ble_eq_true rfl) hcs (kI ?_)
    refine r_ifne_b (tgt := 25) (pc := 19) dX6_minister_19 (by decide) (fun h19 => ?_) (fun h19 => ?_)
    · obtain ⟨q, hqa, hqb, rfl⟩ := rg_mp (a := 0) (b := 60) h19 (by omega) (by omega)
      refine r_aload_n (pc := 25) dX6_minister_25 rfl ?_
      refine iv_X6_204 (d_X6_putAside _ _ _) (pc := 26) dX6_minister_26 rfl ⟨Nat.le_of_ble_eq_true rfl, Nat.le_of_ble_eq_true rfl⟩ (Nat.le_of_ble_eq_true rfl) hcs (kqV (fun N26 r26 => ?_))
      refine r_aload_n (pc := 29) dX6_minister_29 rfl ?_
      refine r_iload_n (pc := 30) dX6_minister_30 rfl ?_
      refine iv_X6_196 (d_X6_goOn _ _ M _ (M 4) _ n (by omega) r26 hn hn6 hn1) (pc := 31) dX6_minister_31 rfl ⟨Nat.le_of_ble_eq_true rfl, Nat.le_of_ble_eq_true rfl⟩ (Nat.le_of_ble_eq_true rfl) hcs (kqV (fun N31 r31 => ?_))
      refine r_aload_n (pc := 34) dX6_minister_34 rfl ?_
      refine r_iconst (v := nI 0) (pc := 35) dX6_minister_35 (by decide) ?_
      refine iv_X6_153 (c_X6_atRank _ _ _ _ n (r31.n2 ((goP_2 (M 4) n q).trans hn)) hn6) (pc := 36) dX6_minister_36 rfl ⟨Nat.le_of_ble_eq_true rfl, Nat.le_of_ble_eq_true rfl⟩ (Nat.le_of_ble_eq_true rfl) hcs (kI ?_)
      refine r_is (atN (goP (M 4) n q) n (nI 0) n) (by rw [r31.1]) ?_
      refine r_st_n [_, _, _] (pc := 39) dX6_minister_39 (by decide) rfl rfl ?_
      refine r_aload_n (pc := 40) dX6_minister_40 rfl ?_
      refine iv_X6_199 (d_X6_takeBack _ _ M _ _ r31) (pc := 41) dX6_minister_41 rfl ⟨Nat.le_of_ble_eq_true rfl, Nat.le_of_ble_eq_true rfl⟩ (Nat.le_of_ble_eq_true rfl) hcs (kqV (fun N41 r41 => ?_))
      refine r_iload_n (pc := 44) dX6_minister_44 rfl ?_
      exact r_iret (pc := 45) dX6_minister_45 rfl (by subst hPP; exact (Or.inr (Or.inr ⟨hn1, q, hqb, rfl, rfl, r41.qm⟩)))
    · have g19 : ¬ rgG 0 60 x := fun z => h19 (rg_mpr z (by omega))
      refine r_ldc (pc := 22) dX6_minister_22 lk_X6_67 ?_
      exact r_iret (pc := 24) dX6_minister_24 rfl (by subst hPP; exact (Or.inr (Or.inl ⟨hn1, g19, rfl, rfl⟩)))
  · have g4 : n = 0 := ht.mp h4
    refine r_ldc (pc := 7) dX6_minister_7 lk_X6_169 ?_
    exact r_iret (pc := 9) dX6_minister_9 rfl (by subst hPP; exact (Or.inl ⟨g4, rfl, rfl⟩))
set_option maxHeartbeats 4000000 in
set_option maxRecDepth 100000 in
theorem c_X6_floor (l : Launch) (G : Gx) (M : Mem) (x : Int32) (n : Nat) (hn : M 4 2 = nI n) (hn6 : n ≤ 6) : Con l G yX6_floor cX6_floor 4 (some .int) 6 134 [.ref (gA G 0), .int x] M (fun v M' => (¬ (chG n x) ∧ rI cBad M v M') ∨ (∃ k, k < n ∧ x = nI k ∧ ∃ j, j ≤ 60 ∧ (∀ i, i < j → ¬ goP (M 4) n i (11 + k) ≤ 0) ∧ (goP (M 4) n j (11 + k) ≤ 0 ∨ j = 60) ∧ qI (if goP (M 4) n j (11 + k) = 0 then nI j else cNone) (qm M) v M')) := by
  refine Con.ofV [some (.ref (gA G 0)), some (.int x), none, none] RX6 (by decide) rfl (Nat.le_of_ble_eq_true rfl) rfl ?_
  intro κ hl hG hk0 hn0
  subst hl hG
  have hcs : κ.k ≤ 0 ∧ κ.n ≤ 0 := ⟨Nat.le_of_eq hk0, Nat.le_of_eq hn0⟩
  generalize hPP : (fun v M' => (¬ (chG n x) ∧ rI cBad M v M') ∨ (∃ k, k < n ∧ x = nI k ∧ ∃ j, j ≤ 60 ∧ (∀ i, i < j → ¬ goP (M 4) n i (11 + k) ≤ 0) ∧ (goP (M 4) n j (11 + k) ≤ 0 ∨ j = 60) ∧ qI (if goP (M 4) n j (11 + k) = 0 then nI j else cNone) (qm M) v M')) = PP
  refine r_aload_n (pc := 0) dX6_floor_0 rfl ?_
  refine r_iload_n (pc := 1) dX6_floor_1 rfl ?_
  refine iv_X6_178 (c_X6_isChair _ _ _ _) (pc := 2) dX6_floor_2 rfl ⟨Nat.le_of_ble_eq_true rfl, Nat.le_of_ble_eq_true rfl⟩ (Nat.le_of_ble_eq_true rfl) hcs (kI ?_)
  refine r_ifne_b (tgt := 11) (pc := 5) dX6_floor_5 (by decide) (fun h5 => ?_) (fun h5 => ?_)
  · obtain ⟨k, hk, rfl⟩ := ch_mp hn hn6 h5
    refine r_aload_n (pc := 11) dX6_floor_11 rfl ?_
    refine iv_X6_204 (d_X6_putAside _ _ _) (pc := 12) dX6_floor_12 rfl ⟨Nat.le_of_ble_eq_true rfl, Nat.le_of_ble_eq_true rfl⟩ (Nat.le_of_ble_eq_true rfl) hcs (kqV (fun N12 r12 => ?_))
    refine r_iconst (v := nI 0) (pc := 15) dX6_floor_15 (by decide) ?_
    refine r_st_n [_, _, _, _] (pc := 16) dX6_floor_16 (by decide) rfl rfl ?_
    refine V.bk (loopV (fun (σ : Nat × Mem) => V κ cX6_floor RX6 4 (some .int) (rmx 6 134) (QM κ PP) (σ.2) 17 [some (.ref (gA κ.G 0)), some (.int (nI k)), some (.int (nI (σ.1))), none] []) (fun (σ : Nat × Mem) => (σ.1) ≤ 60 ∧ rs M (goP (M 4) n (σ.1)) (σ.2) ∧ ∀ i, i < (σ.1) → ¬ goP (M 4) n i (11 + k) ≤ 0) (fun (σ : Nat × Mem) => 60 - (σ.1)) ?_ (0, N12) ⟨Nat.zero_le _, r12, fun i h => absurd h (Nat.not_lt_zero i)⟩) rfl (by (repeat (first | exact wk_0 | refine wk_n ?_ | refine wk_s rfl ?_)); done)
    rintro ⟨j, N⟩ hI0 ih
    dsimp only at hI0 ih
    obtain ⟨hj, hN, hi⟩ := hI0
    show V κ cX6_floor RX6 4 (some .int) (rmx 6 134) (QM κ PP) N 17 [some (.ref (gA κ.G 0)), some (.int (nI k)), some (.int (nI j)), none] []
    refine r_aload_n (pc := 17) dX6_floor_17 rfl ?_
    refine gf_X6_19 (pc := 18) dX6_floor_18 rfl ?_
    refine r_bipush (v := nI 11) (pc := 21) dX6_floor_21 (by decide) ?_
    refine r_iload_n (pc := 23) dX6_floor_23 rfl ?_
    first | with_reducible refine r_iaddN (pc := 24) dX6_floor_24 ?_ | refine r_iadd (pc := 24) dX6_floor_24 ?_
    refine r_iald (pc := 25) dX6_floor_25 rfl (show _ < 41 by omega) ?_
    refine r_is (goP (M 4) n j (11 + k)) (by rw [hN.1]) ?_
    refine r_if_le (tgt := 45) (pc := 26) dX6_floor_26 (by decide) (fun h26 => ?_) (fun h26 => ?_)
    · have hx : goP (M 4) n j (11 + k) ≤ 0 ∨ j = 60 := Or.inl h26
      refine r_aload_n (pc := 45) dX6_floor_45 rfl ?_
      refine gf_X6_19 (pc := 46) dX6_floor_46 rfl ?_
      refine r_bipush (v := nI 11) (pc := 49) dX6_floor_49 (by decide) ?_
      refine r_iload_n (pc := 51) dX6_floor_51 rfl ?_
      first | with_reducible refine r_iaddN (pc := 52) dX6_floor_52 ?_ | refine r_iadd (pc := 52) dX6_floor_52 ?_
      refine r_iald (pc := 53) dX6_floor_53 rfl (show _ < 41 by omega) ?_
      refine r_is (goP (M 4) n j (11 + k)) (by rw [hN.1]) ?_
      refine t_if_ne (tgt := 61) (J := 62) (a := ?pA54x1) (b := ?pB54x1) (pc := 54) dX6_floor_54 (by decide) (fun k54x1 => ?pT54x1) (fun k54x1 => ?pF54x1) ?pK54x1
      case pT54x1 =>
        refine r_iconst (v := nI 0) (pc := 61) dX6_floor_61 (by decide) ?_
        exact k54x1
      case pF54x1 =>
        refine r_iconst (v := nI 1) (pc := 57) dX6_floor_57 (by decide) ?_
        refine r_goto (tgt := 62) (pc := 58) dX6_floor_58 (by decide) ?_
        exact k54x1
      case pK54x1 =>
        refine r_st_n [_, _, _, _] (pc := 62) dX6_floor_62 (by decide) rfl rfl ?_
        refine r_aload_n (pc := 63) dX6_floor_63 rfl ?_
        refine iv_X6_199 (d_X6_takeBack _ _ M _ _ hN) (pc := 64) dX6_floor_64 rfl ⟨Nat.le_of_ble_eq_true rfl, Nat.le_of_ble_eq_true rfl⟩ (Nat.le_of_ble_eq_true rfl) hcs (kqV (fun N64 r64 => ?_))
        refine r_iload_n (pc := 67) dX6_floor_67 rfl ?_
        refine t_if_eq (tgt := 75) (J := 77) (a := ?pA68x2) (b := ?pB68x2) (pc := 68) dX6_floor_68 (by decide) (fun k68x2 => ?pT68x2) (fun k68x2 => ?pF68x2) ?pK68x2
        case pT68x2 =>
          refine r_ldc (pc := 75) dX6_floor_75 lk_X6_149 ?_
          exact k68x2
        case pF68x2 =>
          refine r_iload_n (pc := 71) dX6_floor_71 rfl ?_
          refine r_goto (tgt := 77) (pc := 72) dX6_floor_72 (by decide) ?_
          exact k68x2
        case pK68x2 =>
          exact r_iret (pc := 77) dX6_floor_77 rfl (by subst hPP; exact (Or.inr ⟨k, hk, rfl, j, hj, hi, hx, by rw [t01], r64.qm⟩))
    · refine r_iload_n (pc := 29) dX6_floor_29 rfl ?_
      refine r_bipush (v := nI 60) (pc := 30) dX6_floor_30 (by decide) ?_
      refine r_icmp_ge (tgt := 45) (pc := 32) dX6_floor_32 (by decide) (fun h32 => ?_) (fun h32 => ?_)
      · have hx : goP (M 4) n j (11 + k) ≤ 0 ∨ j = 60 := Or.inr (by have := (nI_leI (by omega) (by omega)).mp h32; omega)
        refine r_aload_n (pc := 45) dX6_floor_45 rfl ?_
        refine gf_X6_19 (pc := 46) dX6_floor_46 rfl ?_
        refine r_bipush (v := nI 11) (pc := 49) dX6_floor_49 (by decide) ?_
        refine r_iload_n (pc := 51) dX6_floor_51 rfl ?_
        first | with_reducible refine r_iaddN (pc := 52) dX6_floor_52 ?_ | refine r_iadd (pc := 52) dX6_floor_52 ?_
        refine r_iald (pc := 53) dX6_floor_53 rfl (show _ < 41 by omega) ?_
        refine r_is (goP (M 4) n j (11 + k)) (by rw [hN.1]) ?_
        refine t_if_ne (tgt := 61) (J := 62) (a := ?pA54x3) (b := ?pB54x3) (pc := 54) dX6_floor_54 (by decide) (fun k54x3 => ?pT54x3) (fun k54x3 => ?pF54x3) ?pK54x3
        case pT54x3 =>
          refine r_iconst (v := nI 0) (pc := 61) dX6_floor_61 (by decide) ?_
          exact k54x3
        case pF54x3 =>
          refine r_iconst (v := nI 1) (pc := 57) dX6_floor_57 (by decide) ?_
          refine r_goto (tgt := 62) (pc := 58) dX6_floor_58 (by decide) ?_
          exact k54x3
        case pK54x3 =>
          refine r_st_n [_, _, _, _] (pc := 62) dX6_floor_62 (by decide) rfl rfl ?_
          refine r_aload_n (pc := 63) dX6_floor_63 rfl ?_
          refine iv_X6_199 (d_X6_takeBack _ _ M _ _ hN) (pc := 64) dX6_floor_64 rfl ⟨Nat.le_of_ble_eq_true rfl, Nat.le_of_ble_eq_true rfl⟩ (Nat.le_of_ble_eq_true rfl) hcs (kqV (fun N64 r64 => ?_))
          refine r_iload_n (pc := 67) dX6_floor_67 rfl ?_
          refine t_if_eq (tgt := 75) (J := 77) (a := ?pA68x4) (b := ?pB68x4) (pc := 68) dX6_floor_68 (by decide) (fun k68x4 => ?pT68x4) (fun k68x4 => ?pF68x4) ?pK68x4
          case pT68x4 =>
            refine r_ldc (pc := 75) dX6_floor_75 lk_X6_149 ?_
            exact k68x4
          case pF68x4 =>
            refine r_iload_n (pc := 71) dX6_floor_71 rfl ?_
            refine r_goto (tgt := 77) (pc := 72) dX6_floor_72 (by decide) ?_
            exact k68x4
          case pK68x4 =>
            exact r_iret (pc := 77) dX6_floor_77 rfl (by subst hPP; exact (Or.inr ⟨k, hk, rfl, j, hj, hi, hx, by rw [t01], r64.qm⟩))
      · have h32 : j < 60 := Nat.not_le.mp (fun z => h32 ((nI_leI (by omega) (by omega)).mpr z))
        refine r_aload_n (pc := 35) dX6_floor_35 rfl ?_
        refine iv_X6_175 (d_X6_oneNight _ _ M _ _ n hN ((goP_2 (M 4) n j).trans hn) hn6 (by omega)) (pc := 36) dX6_floor_36 rfl ⟨Nat.le_of_ble_eq_true rfl, Nat.le_of_ble_eq_true rfl⟩ (Nat.le_of_ble_eq_true rfl) hcs (kqV (fun N36 r36 => ?_))
        first | refine r_inc [_, _, _, _] (pc := 39) dX6_floor_39 rfl (nI_inc _) (by decide) rfl rfl ?_ | refine r_inc [_, _, _, _] (pc := 39) dX6_floor_39 rfl rfl (by decide) rfl rfl ?_
        refine r_goto (tgt := 17) (pc := 42) dX6_floor_42 (by decide) ?_
        exact ih (j + 1, N36) ⟨by omega, r36, lt_s hi h26⟩ (by omega)
  · have g5 : ¬ chG n x := fun z => h5 (ch_mpr hn hn6 z)
    refine r_ldc (pc := 8) dX6_floor_8 lk_X6_67 ?_
    exact r_iret (pc := 10) dX6_floor_10 rfl (by subst hPP; exact (Or.inl ⟨by first | exact fun z => g5 z, rfl, rfl⟩))
set_option maxHeartbeats 4000000 in
set_option maxRecDepth 100000 in
theorem c_X6_rises (l : Launch) (G : Gx) (M : Mem) (x y : Int32) (n : Nat) (hn : M 4 2 = nI n) (hn6 : n ≤ 6) : Con l G yX6_rises cX6_rises 5 (some .int) 6 134 [.ref (gA G 0), .int x, .int y] M (fun v M' => (¬ (chG n x ∧ rgG 0 5 y) ∧ rI cBad M v M') ∨ (∃ k q, k < n ∧ q ≤ 5 ∧ x = nI k ∧ y = nI q ∧ ∃ j, j ≤ 60 ∧ (∀ i, i < j → ¬ nI (rankN (goP (M 4) n i) k n) ≤ nI q) ∧ (nI (rankN (goP (M 4) n j) k n) ≤ nI q ∨ j = 60) ∧ qI (if nI q < nI (rankN (goP (M 4) n j) k n) then cNone else nI j) (qm M) v M')) := by
  refine Con.ofV [some (.ref (gA G 0)), some (.int x), some (.int y), none, none] RX6 (by decide) rfl (Nat.le_of_ble_eq_true rfl) rfl ?_
  intro κ hl hG hk0 hn0
  subst hl hG
  have hcs : κ.k ≤ 0 ∧ κ.n ≤ 0 := ⟨Nat.le_of_eq hk0, Nat.le_of_eq hn0⟩
  generalize hPP : (fun v M' => (¬ (chG n x ∧ rgG 0 5 y) ∧ rI cBad M v M') ∨ (∃ k q, k < n ∧ q ≤ 5 ∧ x = nI k ∧ y = nI q ∧ ∃ j, j ≤ 60 ∧ (∀ i, i < j → ¬ nI (rankN (goP (M 4) n i) k n) ≤ nI q) ∧ (nI (rankN (goP (M 4) n j) k n) ≤ nI q ∨ j = 60) ∧ qI (if nI q < nI (rankN (goP (M 4) n j) k n) then cNone else nI j) (qm M) v M')) = PP
  refine r_aload_n (pc := 0) dX6_rises_0 rfl ?_
  refine r_iload_n (pc := 1) dX6_rises_1 rfl ?_
  refine iv_X6_178 (c_X6_isChair _ _ _ _) (pc := 2) dX6_rises_2 rfl ⟨Nat.le_of_ble_eq_true rfl, Nat.le_of_ble_eq_true rfl⟩ (Nat.le_of_ble_eq_true rfl) hcs (kI ?_)
  refine r_ifeq_b (tgt := 20) (pc := 5) dX6_rises_5 (by decide) (fun h5 => ?_) (fun h5 => ?_)
  · have g5 : ¬ chG n x := fun z => h5 (ch_mpr hn hn6 z)
    refine r_ldc (pc := 20) dX6_rises_20 lk_X6_67 ?_
    exact r_iret (pc := 22) dX6_rises_22 rfl (by subst hPP; exact (Or.inl ⟨by first | exact fun z => g5 z.1 | exact fun z => g17 z.2, rfl, rfl⟩))
  · obtain ⟨k, hk, rfl⟩ := ch_mp hn hn6 h5
    refine r_iload_n (pc := 8) dX6_rises_8 rfl ?_
    refine r_i2l (pc := 9) dX6_rises_9 ?_
    refine r_lconst (v := (nI 0).toInt64) (pc := 10) dX6_rises_10 (by decide) ?_
    refine r_ldc2 (pc := 11) dX6_rises_11 lk_X6_207 ?_
    refine iv_X6_57 (c_X6_inI _ _ _ _ _ _) (pc := 14) dX6_rises_14 ⟨Nat.le_of_ble_eq_true rfl, Nat.le_of_ble_eq_true rfl⟩ (Nat.le_of_ble_eq_true rfl) hcs (kI ?_)
    refine r_ifne_b (tgt := 23) (pc := 17) dX6_rises_17 (by decide) (fun h17 => ?_) (fun h17 => ?_)
    · obtain ⟨q, hqa, hqb, rfl⟩ := rg_mp (a := 0) (b := 5) h17 (by omega) (by omega)
      refine r_aload_n (pc := 23) dX6_rises_23 rfl ?_
      refine iv_X6_204 (d_X6_putAside _ _ _) (pc := 24) dX6_rises_24 rfl ⟨Nat.le_of_ble_eq_true rfl, Nat.le_of_ble_eq_true rfl⟩ (Nat.le_of_ble_eq_true rfl) hcs (kqV (fun N24 r24 => ?_))
      refine r_iconst (v := nI 0) (pc := 27) dX6_rises_27 (by decide) ?_
      refine r_st_n [_, _, _, _, _] (pc := 28) dX6_rises_28 (by decide) rfl rfl ?_
      refine V.bk (loopV (fun (σ : Nat × Mem) => V κ cX6_rises RX6 5 (some .int) (rmx 6 134) (QM κ PP) (σ.2) 29 [some (.ref (gA κ.G 0)), some (.int (nI k)), some (.int (nI q)), some (.int (nI (σ.1))), none] []) (fun (σ : Nat × Mem) => (σ.1) ≤ 60 ∧ rs M (goP (M 4) n (σ.1)) (σ.2) ∧ ∀ i, i < (σ.1) → ¬ nI (rankN (goP (M 4) n i) k n) ≤ nI q) (fun (σ : Nat × Mem) => 60 - (σ.1)) ?_ (0, N24) ⟨Nat.zero_le _, r24, fun i h => absurd h (Nat.not_lt_zero i)⟩) rfl (by (repeat (first | exact wk_0 | refine wk_n ?_ | refine wk_s rfl ?_)); done)
      rintro ⟨j, N⟩ hI0 ih
      dsimp only at hI0 ih
      obtain ⟨hj, hN, hi⟩ := hI0
      show V κ cX6_rises RX6 5 (some .int) (rmx 6 134) (QM κ PP) N 29 [some (.ref (gA κ.G 0)), some (.int (nI k)), some (.int (nI q)), some (.int (nI j)), none] []
      refine r_aload_n (pc := 29) dX6_rises_29 rfl ?_
      refine r_iload_n (pc := 30) dX6_rises_30 rfl ?_
      refine iv_X6_150 (c_X6_rankOf _ _ _ _ n (by omega) (hN.n2 ((goP_2 (M 4) n j).trans hn)) hn6) (pc := 31) dX6_rises_31 rfl ⟨Nat.le_of_ble_eq_true rfl, Nat.le_of_ble_eq_true rfl⟩ (Nat.le_of_ble_eq_true rfl) hcs (kI ?_)
      refine r_is (nI (rankN (goP (M 4) n j) k n)) (by rw [hN.1]) ?_
      refine r_iload_n (pc := 34) dX6_rises_34 rfl ?_
      refine r_icmp_le (tgt := 54) (pc := 35) dX6_rises_35 (by decide) (fun h35 => ?_) (fun h35 => ?_)
      · have hx : nI (rankN (goP (M 4) n j) k n) ≤ nI q ∨ j = 60 := Or.inl h35
        refine r_aload_n (pc := 54) dX6_rises_54 rfl ?_
        refine r_iload_n (pc := 55) dX6_rises_55 rfl ?_
        refine iv_X6_150 (c_X6_rankOf _ _ _ _ n (by omega) (hN.n2 ((goP_2 (M 4) n j).trans hn)) hn6) (pc := 56) dX6_rises_56 rfl ⟨Nat.le_of_ble_eq_true rfl, Nat.le_of_ble_eq_true rfl⟩ (Nat.le_of_ble_eq_true rfl) hcs (kI ?_)
        refine r_is (nI (rankN (goP (M 4) n j) k n)) (by rw [hN.1]) ?_
        refine r_iload_n (pc := 59) dX6_rises_59 rfl ?_
        refine t_icmp_gt (tgt := 67) (J := 68) (a := ?pA60x1) (b := ?pB60x1) (pc := 60) dX6_rises_60 (by decide) (fun k60x1 => ?pT60x1) (fun k60x1 => ?pF60x1) ?pK60x1
        case pT60x1 =>
          refine r_iconst (v := nI 0) (pc := 67) dX6_rises_67 (by decide) ?_
          exact k60x1
        case pF60x1 =>
          refine r_iconst (v := nI 1) (pc := 63) dX6_rises_63 (by decide) ?_
          refine r_goto (tgt := 68) (pc := 64) dX6_rises_64 (by decide) ?_
          exact k60x1
        case pK60x1 =>
          refine r_st [_, _, _, _, _] (pc := 68) dX6_rises_68 (by decide) rfl rfl ?_
          refine r_aload_n (pc := 70) dX6_rises_70 rfl ?_
          refine iv_X6_199 (d_X6_takeBack _ _ M _ _ hN) (pc := 71) dX6_rises_71 rfl ⟨Nat.le_of_ble_eq_true rfl, Nat.le_of_ble_eq_true rfl⟩ (Nat.le_of_ble_eq_true rfl) hcs (kqV (fun N71 r71 => ?_))
          refine r_iload (pc := 74) dX6_rises_74 rfl ?_
          refine t_if_eq (tgt := 83) (J := 85) (a := ?pA76x2) (b := ?pB76x2) (pc := 76) dX6_rises_76 (by decide) (fun k76x2 => ?pT76x2) (fun k76x2 => ?pF76x2) ?pK76x2
          case pT76x2 =>
            refine r_ldc (pc := 83) dX6_rises_83 lk_X6_149 ?_
            exact k76x2
          case pF76x2 =>
            refine r_iload_n (pc := 79) dX6_rises_79 rfl ?_
            refine r_goto (tgt := 85) (pc := 80) dX6_rises_80 (by decide) ?_
            exact k76x2
          case pK76x2 =>
            exact r_iret (pc := 85) dX6_rises_85 rfl (by subst hPP; exact (Or.inr ⟨k, q, hk, hqb, rfl, rfl, j, hj, hi, hx, by rw [t01n], r71.qm⟩))
      · refine r_iload_n (pc := 38) dX6_rises_38 rfl ?_
        refine r_bipush (v := nI 60) (pc := 39) dX6_rises_39 (by decide) ?_
        refine r_icmp_ge (tgt := 54) (pc := 41) dX6_rises_41 (by decide) (fun h41 => ?_) (fun h41 => ?_)
        · have hx : nI (rankN (goP (M 4) n j) k n) ≤ nI q ∨ j = 60 := Or.inr (by have := (nI_leI (by omega) (by omega)).mp h41; omega)
          refine r_aload_n (pc := 54) dX6_rises_54 rfl ?_
          refine r_iload_n (pc := 55) dX6_rises_55 rfl ?_
          refine iv_X6_150 (c_X6_rankOf _ _ _ _ n (by omega) (hN.n2 ((goP_2 (M 4) n j).trans hn)) hn6) (pc := 56) dX6_rises_56 rfl ⟨Nat.le_of_ble_eq_true rfl, Nat.le_of_ble_eq_true rfl⟩ (Nat.le_of_ble_eq_true rfl) hcs (kI ?_)
          refine r_is (nI (rankN (goP (M 4) n j) k n)) (by rw [hN.1]) ?_
          refine r_iload_n (pc := 59) dX6_rises_59 rfl ?_
          refine t_icmp_gt (tgt := 67) (J := 68) (a := ?pA60x3) (b := ?pB60x3) (pc := 60) dX6_rises_60 (by decide) (fun k60x3 => ?pT60x3) (fun k60x3 => ?pF60x3) ?pK60x3
          case pT60x3 =>
            refine r_iconst (v := nI 0) (pc := 67) dX6_rises_67 (by decide) ?_
            exact k60x3
          case pF60x3 =>
            refine r_iconst (v := nI 1) (pc := 63) dX6_rises_63 (by decide) ?_
            refine r_goto (tgt := 68) (pc := 64) dX6_rises_64 (by decide) ?_
            exact k60x3
          case pK60x3 =>
            refine r_st [_, _, _, _, _] (pc := 68) dX6_rises_68 (by decide) rfl rfl ?_
            refine r_aload_n (pc := 70) dX6_rises_70 rfl ?_
            refine iv_X6_199 (d_X6_takeBack _ _ M _ _ hN) (pc := 71) dX6_rises_71 rfl ⟨Nat.le_of_ble_eq_true rfl, Nat.le_of_ble_eq_true rfl⟩ (Nat.le_of_ble_eq_true rfl) hcs (kqV (fun N71 r71 => ?_))
            refine r_iload (pc := 74) dX6_rises_74 rfl ?_
            refine t_if_eq (tgt := 83) (J := 85) (a := ?pA76x4) (b := ?pB76x4) (pc := 76) dX6_rises_76 (by decide) (fun k76x4 => ?pT76x4) (fun k76x4 => ?pF76x4) ?pK76x4
            case pT76x4 =>
              refine r_ldc (pc := 83) dX6_rises_83 lk_X6_149 ?_
              exact k76x4
            case pF76x4 =>
              refine r_iload_n (pc := 79) dX6_rises_79 rfl ?_
              refine r_goto (tgt := 85) (pc := 80) dX6_rises_80 (by decide) ?_
              exact k76x4
            case pK76x4 =>
              exact r_iret (pc := 85) dX6_rises_85 rfl (by subst hPP; exact (Or.inr ⟨k, q, hk, hqb, rfl, rfl, j, hj, hi, hx, by rw [t01n], r71.qm⟩))
        · have h41 : j < 60 := Nat.not_le.mp (fun z => h41 ((nI_leI (by omega) (by omega)).mpr z))
          refine r_aload_n (pc := 44) dX6_rises_44 rfl ?_
          refine iv_X6_175 (d_X6_oneNight _ _ M _ _ n hN ((goP_2 (M 4) n j).trans hn) hn6 (by omega)) (pc := 45) dX6_rises_45 rfl ⟨Nat.le_of_ble_eq_true rfl, Nat.le_of_ble_eq_true rfl⟩ (Nat.le_of_ble_eq_true rfl) hcs (kqV (fun N45 r45 => ?_))
          first | refine r_inc [_, _, _, _, _] (pc := 48) dX6_rises_48 rfl (nI_inc _) (by decide) rfl rfl ?_ | refine r_inc [_, _, _, _, _] (pc := 48) dX6_rises_48 rfl rfl (by decide) rfl rfl ?_
          refine r_goto (tgt := 29) (pc := 51) dX6_rises_51 (by decide) ?_
          exact ih (j + 1, N45) ⟨by omega, r45, lt_s hi h35⟩ (by omega)
    · have g17 : ¬ rgG 0 5 y := fun z => h17 (rg_mpr z (by omega))
      refine r_ldc (pc := 20) dX6_rises_20 lk_X6_67 ?_
      exact r_iret (pc := 22) dX6_rises_22 rfl (by subst hPP; exact (Or.inl ⟨by first | exact fun z => g5 z.1 | exact fun z => g17 z.2, rfl, rfl⟩))
set_option maxHeartbeats 4000000 in
set_option maxRecDepth 100000 in
theorem c_X6_calm (l : Launch) (G : Gx) (M : Mem) (n : Nat) (hn : M 4 2 = nI n) (hn6 : n ≤ 6) (ht : M 0 4 = 0 ↔ n = 0) : Con l G yX6_calm cX6_calm 4 (some .int) 6 134 [.ref (gA G 0)] M (fun v M' => (n = 0 ∧ rI cState M v M') ∨ (0 < n ∧ ∃ u, fstE (fun i => sumN (goP (M 4) n (i + 1)) 11 n = sumN (goP (M 4) n i) 11 n) 61 u ∧ qI u (qm M) v M')) := by
  refine Con.ofV [some (.ref (gA G 0)), none, none, none] RX6 (by decide) rfl (Nat.le_of_ble_eq_true rfl) rfl ?_
  intro κ hl hG hk0 hn0
  subst hl hG
  have hcs : κ.k ≤ 0 ∧ κ.n ≤ 0 := ⟨Nat.le_of_eq hk0, Nat.le_of_eq hn0⟩
  generalize hPP : (fun v M' => (n = 0 ∧ rI cState M v M') ∨ (0 < n ∧ ∃ u, fstE (fun i => sumN (goP (M 4) n (i + 1)) 11 n = sumN (goP (M 4) n i) 11 n) 61 u ∧ qI u (qm M) v M')) = PP
  refine r_aload_n (pc := 0) dX6_calm_0 rfl ?_
  refine gf_X6_135 (pc := 1) dX6_calm_1 rfl ?_
  refine r_if_ne (tgt := 10) (pc := 4) dX6_calm_4 (by decide) (fun h4 => ?_) (fun h4 => ?_)
  · have hn1 : 0 < n := Nat.pos_of_ne_zero (fun z => h4 (ht.mpr z))
    refine r_aload_n (pc := 10) dX6_calm_10 rfl ?_
    refine iv_X6_204 (d_X6_putAside _ _ _) (pc := 11) dX6_calm_11 rfl ⟨Nat.le_of_ble_eq_true rfl, Nat.le_of_ble_eq_true rfl⟩ (Nat.le_of_ble_eq_true rfl) hcs (kqV (fun N11 r11 => ?_))
    refine r_ldc (pc := 14) dX6_calm_14 lk_X6_149 ?_
    refine r_st_n [_, _, _, _] (pc := 16) dX6_calm_16 (by decide) rfl rfl ?_
    refine r_iconst (v := nI 0) (pc := 17) dX6_calm_17 (by decide) ?_
    refine r_st_n [_, _, _, _] (pc := 18) dX6_calm_18 (by decide) rfl rfl ?_
    refine V.bk (loopV (fun (σ : Nat × Mem × Int32) => V κ cX6_calm RX6 4 (some .int) (rmx 6 134) (QM κ PP) (σ.2.1) 19 [some (.ref (gA κ.G 0)), some (.int (σ.2.2)), some (.int (nI (σ.1))), none] []) (fun (σ : Nat × Mem × Int32) => (σ.1) ≤ 61 ∧ rs M (goP (M 4) n (σ.1)) (σ.2.1) ∧ fstI (fun i => sumN (goP (M 4) n (i + 1)) 11 n = sumN (goP (M 4) n i) 11 n) (σ.2.2) (σ.1)) (fun (σ : Nat × Mem × Int32) => 61 - (σ.1)) ?_ (0, N11, cNone) ⟨Nat.zero_le _, r11, fstI_0 _⟩) rfl (by (repeat (first | exact wk_0 | refine wk_n ?_ | refine wk_s rfl ?_)); done)
    rintro ⟨j, N, u⟩ hI0 ih
    dsimp only at hI0 ih
    obtain ⟨hj, hN, hf⟩ := hI0
    show V κ cX6_calm RX6 4 (some .int) (rmx 6 134) (QM κ PP) N 19 [some (.ref (gA κ.G 0)), some (.int u), some (.int (nI j)), none] []
    refine r_iload_n (pc := 19) dX6_calm_19 rfl ?_
    refine r_bipush (v := nI 60) (pc := 20) dX6_calm_20 (by decide) ?_
    refine r_icmp_gt (tgt := 62) (pc := 22) dX6_calm_22 (by decide) (fun h22 => ?_) (fun h22 => ?_)
    · have hx : fstE (fun i => sumN (goP (M 4) n (i + 1)) 11 n = sumN (goP (M 4) n i) 11 n) 61 u := fstI_e hf (Or.inl (by have := (nI_ltI (by omega) (by omega)).mp h22; omega))
      refine r_aload_n (pc := 62) dX6_calm_62 rfl ?_
      refine iv_X6_199 (d_X6_takeBack _ _ M _ _ hN) (pc := 63) dX6_calm_63 rfl ⟨Nat.le_of_ble_eq_true rfl, Nat.le_of_ble_eq_true rfl⟩ (Nat.le_of_ble_eq_true rfl) hcs (kqV (fun N63 r63 => ?_))
      refine r_iload_n (pc := 66) dX6_calm_66 rfl ?_
      exact r_iret (pc := 67) dX6_calm_67 rfl (by subst hPP; exact (Or.inr ⟨hn1, u, hx, rfl, r63.qm⟩))
    · have h22 : j ≤ 60 := Nat.not_lt.mp (fun z => h22 ((nI_ltI (by omega) (by omega)).mpr z))
      refine r_iload_n (pc := 25) dX6_calm_25 rfl ?_
      refine r_if_ge (tgt := 62) (pc := 26) dX6_calm_26 (by decide) (fun h26 => ?_) (fun h26 => ?_)
      · have hx : fstE (fun i => sumN (goP (M 4) n (i + 1)) 11 n = sumN (goP (M 4) n i) 11 n) 61 u := fstI_e hf (Or.inr ⟨h26, by omega⟩)
        refine r_aload_n (pc := 62) dX6_calm_62 rfl ?_
        refine iv_X6_199 (d_X6_takeBack _ _ M _ _ hN) (pc := 63) dX6_calm_63 rfl ⟨Nat.le_of_ble_eq_true rfl, Nat.le_of_ble_eq_true rfl⟩ (Nat.le_of_ble_eq_true rfl) hcs (kqV (fun N63 r63 => ?_))
        refine r_iload_n (pc := 66) dX6_calm_66 rfl ?_
        exact r_iret (pc := 67) dX6_calm_67 rfl (by subst hPP; exact (Or.inr ⟨hn1, u, hx, rfl, r63.qm⟩))
      · refine r_aload_n (pc := 29) dX6_calm_29 rfl ?_
        refine r_bipush (v := nI 11) (pc := 30) dX6_calm_30 (by decide) ?_
        refine iv_X6_209 (c_X6_sumOf _ _ _ _ n (by omega) (hN.n2 ((goP_2 (M 4) n j).trans hn)) hn6) (pc := 32) dX6_calm_32 rfl ⟨Nat.le_of_ble_eq_true rfl, Nat.le_of_ble_eq_true rfl⟩ (Nat.le_of_ble_eq_true rfl) hcs (kI ?_)
        refine r_is (sumN (goP (M 4) n j) 11 n) (by rw [hN.1]) ?_
        refine r_st_n [_, _, _, _] (pc := 35) dX6_calm_35 (by decide) rfl rfl ?_
        refine r_aload_n (pc := 36) dX6_calm_36 rfl ?_
        refine iv_X6_175 (d_X6_oneNight _ _ M _ _ n hN ((goP_2 (M 4) n j).trans hn) hn6 hn1) (pc := 37) dX6_calm_37 rfl ⟨Nat.le_of_ble_eq_true rfl, Nat.le_of_ble_eq_true rfl⟩ (Nat.le_of_ble_eq_true rfl) hcs (kqV (fun N37 r37 => ?_))
        refine r_aload_n (pc := 40) dX6_calm_40 rfl ?_
        refine r_bipush (v := nI 11) (pc := 41) dX6_calm_41 (by decide) ?_
        refine iv_X6_209 (c_X6_sumOf _ _ _ _ n (by omega) (r37.n2 ((goP_2 (M 4) n (j + 1)).trans hn)) hn6) (pc := 43) dX6_calm_43 rfl ⟨Nat.le_of_ble_eq_true rfl, Nat.le_of_ble_eq_true rfl⟩ (Nat.le_of_ble_eq_true rfl) hcs (kI ?_)
        refine r_is (sumN (goP (M 4) n (j + 1)) 11 n) (by rw [r37.1]; rfl) ?_
        refine r_iload_n (pc := 46) dX6_calm_46 rfl ?_
        refine t_icmp_ne (tgt := 54) (J := 55) (a := ?pA47x1) (b := ?pB47x1) (pc := 47) dX6_calm_47 (by decide) (fun k47x1 => ?pT47x1) (fun k47x1 => ?pF47x1) ?pK47x1
        case pT47x1 =>
          refine r_iload_n (pc := 54) dX6_calm_54 rfl ?_
          exact k47x1
        case pF47x1 =>
          refine r_iload_n (pc := 50) dX6_calm_50 rfl ?_
          refine r_goto (tgt := 55) (pc := 51) dX6_calm_51 (by decide) ?_
          exact k47x1
        case pK47x1 =>
          refine r_st_n [_, _, _, _] (pc := 55) dX6_calm_55 (by decide) rfl rfl ?_
          first | refine r_inc [_, _, _, _] (pc := 56) dX6_calm_56 rfl (nI_inc _) (by decide) rfl rfl ?_ | refine r_inc [_, _, _, _] (pc := 56) dX6_calm_56 rfl rfl (by decide) rfl rfl ?_
          refine r_goto (tgt := 19) (pc := 59) dX6_calm_59 (by decide) ?_
          exact V.bk (ih (j + 1, N37, _) ⟨by omega, r37, fstI_s1 hf (by omega) h26 Iff.rfl⟩ (by omega)) rfl (by (repeat (first | exact wk_0 | refine wk_n ?_ | refine wk_s rfl ?_)); done)
  · have g4 : n = 0 := ht.mp h4
    refine r_ldc (pc := 7) dX6_calm_7 lk_X6_169 ?_
    exact r_iret (pc := 9) dX6_calm_9 rfl (by subst hPP; exact (Or.inl ⟨g4, rfl, rfl⟩))
set_option maxHeartbeats 4000000 in
set_option maxRecDepth 100000 in
theorem c_X6_cushionFor (l : Launch) (G : Gx) (M : Mem) (x y z : Int32) (n : Nat) (hn : M 4 2 = nI n) (hn6 : n ≤ 6) : Con l G yX6_cushionFor cX6_cushionFor 6 (some .int) 8 179 [.ref (gA G 0), .int x, .int y, .int z] M (fun v M' => (¬ (chG n x ∧ rgG 0 5 y ∧ rgG 0 30 z) ∧ rI cBad M v M') ∨ (∃ k q m, k < n ∧ q ≤ 5 ∧ m ≤ 30 ∧ x = nI k ∧ y = nI q ∧ z = nI m ∧ ∃ u, fstE (fun i => ¬ nI q < nI (rankN (goP (upd (M 4) (29 + k) (nI i)) n m) k n)) 21 u ∧ qI u (qm M) v M')) := by
  refine Con.ofV [some (.ref (gA G 0)), some (.int x), some (.int y), some (.int z), none, none] RX6 (by decide) rfl (Nat.le_of_ble_eq_true rfl) rfl ?_
  intro κ hl hG hk0 hn0
  subst hl hG
  have hcs : κ.k ≤ 0 ∧ κ.n ≤ 0 := ⟨Nat.le_of_eq hk0, Nat.le_of_eq hn0⟩
  generalize hPP : (fun v M' => (¬ (chG n x ∧ rgG 0 5 y ∧ rgG 0 30 z) ∧ rI cBad M v M') ∨ (∃ k q m, k < n ∧ q ≤ 5 ∧ m ≤ 30 ∧ x = nI k ∧ y = nI q ∧ z = nI m ∧ ∃ u, fstE (fun i => ¬ nI q < nI (rankN (goP (upd (M 4) (29 + k) (nI i)) n m) k n)) 21 u ∧ qI u (qm M) v M')) = PP
  refine r_aload_n (pc := 0) dX6_cushionFor_0 rfl ?_
  refine r_iload_n (pc := 1) dX6_cushionFor_1 rfl ?_
  refine iv_X6_178 (c_X6_isChair _ _ _ _) (pc := 2) dX6_cushionFor_2 rfl ⟨Nat.le_of_ble_eq_true rfl, Nat.le_of_ble_eq_true rfl⟩ (Nat.le_of_ble_eq_true rfl) hcs (kI ?_)
  refine r_ifeq_b (tgt := 32) (pc := 5) dX6_cushionFor_5 (by decide) (fun h5 => ?_) (fun h5 => ?_)
  · have g5 : ¬ chG n x := fun z => h5 (ch_mpr hn hn6 z)
    refine r_ldc (pc := 32) dX6_cushionFor_32 lk_X6_67 ?_
    exact r_iret (pc := 34) dX6_cushionFor_34 rfl (by subst hPP; exact (Or.inl ⟨by first | exact fun z => g5 z.1 | exact fun z => g17 z.2.1 | exact fun z => g29 z.2.2, rfl, rfl⟩))
  · obtain ⟨k, hk, rfl⟩ := ch_mp hn hn6 h5
    refine r_iload_n (pc := 8) dX6_cushionFor_8 rfl ?_
    refine r_i2l (pc := 9) dX6_cushionFor_9 ?_
    refine r_lconst (v := (nI 0).toInt64) (pc := 10) dX6_cushionFor_10 (by decide) ?_
    refine r_ldc2 (pc := 11) dX6_cushionFor_11 lk_X6_207 ?_
    refine iv_X6_57 (c_X6_inI _ _ _ _ _ _) (pc := 14) dX6_cushionFor_14 ⟨Nat.le_of_ble_eq_true rfl, Nat.le_of_ble_eq_true rfl⟩ (Nat.le_of_ble_eq_true rfl) hcs (kI ?_)
    refine r_ifeq_b (tgt := 32) (pc := 17) dX6_cushionFor_17 (by decide) (fun h17 => ?_) (fun h17 => ?_)
    · have g17 : ¬ rgG 0 5 y := fun z => h17 (rg_mpr z (by omega))
      refine r_ldc (pc := 32) dX6_cushionFor_32 lk_X6_67 ?_
      exact r_iret (pc := 34) dX6_cushionFor_34 rfl (by subst hPP; exact (Or.inl ⟨by first | exact fun z => g5 z.1 | exact fun z => g17 z.2.1 | exact fun z => g29 z.2.2, rfl, rfl⟩))
    · obtain ⟨q, hqa, hqb, rfl⟩ := rg_mp (a := 0) (b := 5) h17 (by omega) (by omega)
      refine r_iload_n (pc := 20) dX6_cushionFor_20 rfl ?_
      refine r_i2l (pc := 21) dX6_cushionFor_21 ?_
      refine r_lconst (v := (nI 0).toInt64) (pc := 22) dX6_cushionFor_22 (by decide) ?_
      refine r_ldc2 (pc := 23) dX6_cushionFor_23 lk_X6_212 ?_
      refine iv_X6_57 (c_X6_inI _ _ _ _ _ _) (pc := 26) dX6_cushionFor_26 ⟨Nat.le_of_ble_eq_true rfl, Nat.le_of_ble_eq_true rfl⟩ (Nat.le_of_ble_eq_true rfl) hcs (kI ?_)
      refine r_ifne_b (tgt := 35) (pc := 29) dX6_cushionFor_29 (by decide) (fun h29 => ?_) (fun h29 => ?_)
      · obtain ⟨m, hma, hmb, rfl⟩ := rg_mp (a := 0) (b := 30) h29 (by omega) (by omega)
        refine r_aload_n (pc := 35) dX6_cushionFor_35 rfl ?_
        refine iv_X6_204 (d_X6_putAside _ _ _) (pc := 36) dX6_cushionFor_36 rfl ⟨Nat.le_of_ble_eq_true rfl, Nat.le_of_ble_eq_true rfl⟩ (Nat.le_of_ble_eq_true rfl) hcs (kqV (fun N36 r36 => ?_))
        refine r_ldc (pc := 39) dX6_cushionFor_39 lk_X6_149 ?_
        refine r_st [_, _, _, _, _, _] (pc := 41) dX6_cushionFor_41 (by decide) rfl rfl ?_
        refine r_iconst (v := nI 0) (pc := 43) dX6_cushionFor_43 (by decide) ?_
        refine r_st [_, _, _, _, _, _] (pc := 44) dX6_cushionFor_44 (by decide) rfl rfl ?_
        refine V.bk (loopV (fun (σ : Nat × Mem × Int32) => V κ cX6_cushionFor RX6 6 (some .int) (rmx 8 179) (QM κ PP) (σ.2.1) 46 [some (.ref (gA κ.G 0)), some (.int (nI k)), some (.int (nI q)), some (.int (nI m)), some (.int (σ.2.2)), some (.int (nI (σ.1)))] []) (fun (σ : Nat × Mem × Int32) => (σ.1) ≤ 21 ∧ rs M (M 4) (σ.2.1) ∧ fstI (fun i => ¬ nI q < nI (rankN (goP (upd (M 4) (29 + k) (nI i)) n m) k n)) (σ.2.2) (σ.1)) (fun (σ : Nat × Mem × Int32) => 21 - (σ.1)) ?_ (0, N36, cNone) ⟨Nat.zero_le _, r36, fstI_0 _⟩) rfl (by (repeat (first | exact wk_0 | refine wk_n ?_ | refine wk_s rfl ?_)); done)
        rintro ⟨j, N, u⟩ hI0 ih
        dsimp only at hI0 ih
        obtain ⟨hj, hN, hf⟩ := hI0
        show V κ cX6_cushionFor RX6 6 (some .int) (rmx 8 179) (QM κ PP) N 46 [some (.ref (gA κ.G 0)), some (.int (nI k)), some (.int (nI q)), some (.int (nI m)), some (.int u), some (.int (nI j))] []
        refine r_iload (pc := 46) dX6_cushionFor_46 rfl ?_
        refine r_bipush (v := nI 20) (pc := 48) dX6_cushionFor_48 (by decide) ?_
        refine r_icmp_gt (tgt := 94) (pc := 50) dX6_cushionFor_50 (by decide) (fun h50 => ?_) (fun h50 => ?_)
        · have hx : fstE (fun i => ¬ nI q < nI (rankN (goP (upd (M 4) (29 + k) (nI i)) n m) k n)) 21 u := fstI_e hf (Or.inl (by have := (nI_ltI (by omega) (by omega)).mp h50; omega))
          refine r_iload (pc := 94) dX6_cushionFor_94 rfl ?_
          exact r_iret (pc := 96) dX6_cushionFor_96 rfl (by subst hPP; exact (Or.inr ⟨k, q, m, hk, hqb, hmb, rfl, rfl, rfl, u, hx, rfl, hN.qm⟩))
        · have h50 : j ≤ 20 := Nat.not_lt.mp (fun z => h50 ((nI_ltI (by omega) (by omega)).mpr z))
          refine r_iload (pc := 53) dX6_cushionFor_53 rfl ?_
          refine r_if_ge (tgt := 94) (pc := 55) dX6_cushionFor_55 (by decide) (fun h55 => ?_) (fun h55 => ?_)
          · have hx : fstE (fun i => ¬ nI q < nI (rankN (goP (upd (M 4) (29 + k) (nI i)) n m) k n)) 21 u := fstI_e hf (Or.inr ⟨h55, by omega⟩)
            refine r_iload (pc := 94) dX6_cushionFor_94 rfl ?_
            exact r_iret (pc := 96) dX6_cushionFor_96 rfl (by subst hPP; exact (Or.inr ⟨k, q, m, hk, hqb, hmb, rfl, rfl, rfl, u, hx, rfl, hN.qm⟩))
          · refine r_aload_n (pc := 58) dX6_cushionFor_58 rfl ?_
            refine gf_X6_19 (pc := 59) dX6_cushionFor_59 rfl ?_
            refine r_bipush (v := nI 29) (pc := 62) dX6_cushionFor_62 (by decide) ?_
            refine r_iload_n (pc := 64) dX6_cushionFor_64 rfl ?_
            first | with_reducible refine r_iaddN (pc := 65) dX6_cushionFor_65 ?_ | refine r_iadd (pc := 65) dX6_cushionFor_65 ?_
            refine r_iload (pc := 66) dX6_cushionFor_66 rfl ?_
            refine r_iast (pc := 68) dX6_cushionFor_68 rfl (show _ < 41 by omega) ?_
            refine r_aload_n (pc := 69) dX6_cushionFor_69 rfl ?_
            refine r_iload_n (pc := 70) dX6_cushionFor_70 rfl ?_
            refine r_iload_n (pc := 71) dX6_cushionFor_71 rfl ?_
            refine iv_X6_214 (d_X6_rankBy _ _ M _ _ _ _ n (by omega) (by omega) (hN.put (by omega) _) (by rw [pk_un (by omega)]; exact hn) hn6 (by omega)) (pc := 72) dX6_cushionFor_72 rfl ⟨Nat.le_of_ble_eq_true rfl, Nat.le_of_ble_eq_true rfl⟩ (Nat.le_of_ble_eq_true rfl) hcs (kqI (fun N72 r72 => ?_))
            refine r_iload_n (pc := 75) dX6_cushionFor_75 rfl ?_
            refine t_icmp_gt (tgt := 84) (J := 86) (a := ?pA76x1) (b := ?pB76x1) (pc := 76) dX6_cushionFor_76 (by decide) (fun k76x1 => ?pT76x1) (fun k76x1 => ?pF76x1) ?pK76x1
            case pT76x1 =>
              refine r_iload (pc := 84) dX6_cushionFor_84 rfl ?_
              exact k76x1
            case pF76x1 =>
              refine r_iload (pc := 79) dX6_cushionFor_79 rfl ?_
              refine r_goto (tgt := 86) (pc := 81) dX6_cushionFor_81 (by decide) ?_
              exact k76x1
            case pK76x1 =>
              refine r_st [_, _, _, _, _, _] (pc := 86) dX6_cushionFor_86 (by decide) rfl rfl ?_
              first | refine r_inc [_, _, _, _, _, _] (pc := 88) dX6_cushionFor_88 rfl (nI_inc _) (by decide) rfl rfl ?_ | refine r_inc [_, _, _, _, _, _] (pc := 88) dX6_cushionFor_88 rfl rfl (by decide) rfl rfl ?_
              refine r_goto (tgt := 46) (pc := 91) dX6_cushionFor_91 (by decide) ?_
              exact V.bk (ih (j + 1, N72, _) ⟨by omega, r72, fstI_s2 hf (by omega) h55 Classical.not_not.symm⟩ (by omega)) rfl (by (repeat (first | exact wk_0 | refine wk_n ?_ | refine wk_s rfl ?_)); done)
      · have g29 : ¬ rgG 0 30 z := fun z => h29 (rg_mpr z (by omega))
        refine r_ldc (pc := 32) dX6_cushionFor_32 lk_X6_67 ?_
        exact r_iret (pc := 34) dX6_cushionFor_34 rfl (by subst hPP; exact (Or.inl ⟨by first | exact fun z => g5 z.1 | exact fun z => g17 z.2.1 | exact fun z => g29 z.2.2, rfl, rfl⟩))
set_option maxHeartbeats 4000000 in
set_option maxRecDepth 100000 in
theorem c_X6_guard (l : Launch) (G : Gx) (M : Mem) (x y z w : Int32) (n : Nat) (hn : M 4 2 = nI n) (hn6 : n ≤ 6) : Con l G yX6_guard cX6_guard 7 (some .int) 8 179 [.ref (gA G 0), .int x, .int y, .int z, .int w] M (fun v M' => (¬ (chG n x ∧ rgG 0 5 y ∧ rgG 0 30 z ∧ rgG 0 1 w) ∧ rI cBad M v M') ∨ (∃ k q m p, k < n ∧ q ≤ 5 ∧ m ≤ 30 ∧ p ≤ 1 ∧ x = nI k ∧ y = nI q ∧ z = nI m ∧ w = nI p ∧ qI (if gdB (fun i => ¬ nI q < nI (rankN (goP (upd (M 4) 4 (nI i)) n m) k n)) (2 ^ n) < 0 ∨ p = 1 then gdB (fun i => ¬ nI q < nI (rankN (goP (upd (M 4) 4 (nI i)) n m) k n)) (2 ^ n) else nI (pop (gdB (fun i => ¬ nI q < nI (rankN (goP (upd (M 4) 4 (nI i)) n m) k n)) (2 ^ n)).toNatClampNeg)) (qm M) v M')) := by
  refine Con.ofV [some (.ref (gA G 0)), some (.int x), some (.int y), some (.int z), some (.int w), none, none] RX6 (by decide) rfl (Nat.le_of_ble_eq_true rfl) rfl ?_
  intro κ hl hG hk0 hn0
  subst hl hG
  have hcs : κ.k ≤ 0 ∧ κ.n ≤ 0 := ⟨Nat.le_of_eq hk0, Nat.le_of_eq hn0⟩
  generalize hPP : (fun v M' => (¬ (chG n x ∧ rgG 0 5 y ∧ rgG 0 30 z ∧ rgG 0 1 w) ∧ rI cBad M v M') ∨ (∃ k q m p, k < n ∧ q ≤ 5 ∧ m ≤ 30 ∧ p ≤ 1 ∧ x = nI k ∧ y = nI q ∧ z = nI m ∧ w = nI p ∧ qI (if gdB (fun i => ¬ nI q < nI (rankN (goP (upd (M 4) 4 (nI i)) n m) k n)) (2 ^ n) < 0 ∨ p = 1 then gdB (fun i => ¬ nI q < nI (rankN (goP (upd (M 4) 4 (nI i)) n m) k n)) (2 ^ n) else nI (pop (gdB (fun i => ¬ nI q < nI (rankN (goP (upd (M 4) 4 (nI i)) n m) k n)) (2 ^ n)).toNatClampNeg)) (qm M) v M')) = PP
  have h64n := two6 n hn6
  refine r_aload_n (pc := 0) dX6_guard_0 rfl ?_
  refine r_iload_n (pc := 1) dX6_guard_1 rfl ?_
  refine iv_X6_178 (c_X6_isChair _ _ _ _) (pc := 2) dX6_guard_2 rfl ⟨Nat.le_of_ble_eq_true rfl, Nat.le_of_ble_eq_true rfl⟩ (Nat.le_of_ble_eq_true rfl) hcs (kI ?_)
  refine r_ifeq_b (tgt := 40) (pc := 5) dX6_guard_5 (by decide) (fun h5 => ?_) (fun h5 => ?_)
  · have g5 : ¬ chG n x := fun z => h5 (ch_mpr hn hn6 z)
    refine r_ldc (pc := 40) dX6_guard_40 lk_X6_67 ?_
    exact r_iret (pc := 42) dX6_guard_42 rfl (by subst hPP; exact (Or.inl ⟨by first | exact fun z => g5 z.1 | exact fun z => g17 z.2.1 | exact fun z => g29 z.2.2.1 | exact fun z => g37 z.2.2.2, rfl, rfl⟩))
  · obtain ⟨k, hk, rfl⟩ := ch_mp hn hn6 h5
    refine r_iload_n (pc := 8) dX6_guard_8 rfl ?_
    refine r_i2l (pc := 9) dX6_guard_9 ?_
    refine r_lconst (v := (nI 0).toInt64) (pc := 10) dX6_guard_10 (by decide) ?_
    refine r_ldc2 (pc := 11) dX6_guard_11 lk_X6_207 ?_
    refine iv_X6_57 (c_X6_inI _ _ _ _ _ _) (pc := 14) dX6_guard_14 ⟨Nat.le_of_ble_eq_true rfl, Nat.le_of_ble_eq_true rfl⟩ (Nat.le_of_ble_eq_true rfl) hcs (kI ?_)
    refine r_ifeq_b (tgt := 40) (pc := 17) dX6_guard_17 (by decide) (fun h17 => ?_) (fun h17 => ?_)
    · have g17 : ¬ rgG 0 5 y := fun z => h17 (rg_mpr z (by omega))
      refine r_ldc (pc := 40) dX6_guard_40 lk_X6_67 ?_
      exact r_iret (pc := 42) dX6_guard_42 rfl (by subst hPP; exact (Or.inl ⟨by first | exact fun z => g5 z.1 | exact fun z => g17 z.2.1 | exact fun z => g29 z.2.2.1 | exact fun z => g37 z.2.2.2, rfl, rfl⟩))
    · obtain ⟨q, hqa, hqb, rfl⟩ := rg_mp (a := 0) (b := 5) h17 (by omega) (by omega)
      refine r_iload_n (pc := 20) dX6_guard_20 rfl ?_
      refine r_i2l (pc := 21) dX6_guard_21 ?_
      refine r_lconst (v := (nI 0).toInt64) (pc := 22) dX6_guard_22 (by decide) ?_
      refine r_ldc2 (pc := 23) dX6_guard_23 lk_X6_212 ?_
      refine iv_X6_57 (c_X6_inI _ _ _ _ _ _) (pc := 26) dX6_guard_26 ⟨Nat.le_of_ble_eq_true rfl, Nat.le_of_ble_eq_true rfl⟩ (Nat.le_of_ble_eq_true rfl) hcs (kI ?_)
      refine r_ifeq_b (tgt := 40) (pc := 29) dX6_guard_29 (by decide) (fun h29 => ?_) (fun h29 => ?_)
      · have g29 : ¬ rgG 0 30 z := fun z => h29 (rg_mpr z (by omega))
        refine r_ldc (pc := 40) dX6_guard_40 lk_X6_67 ?_
        exact r_iret (pc := 42) dX6_guard_42 rfl (by subst hPP; exact (Or.inl ⟨by first | exact fun z => g5 z.1 | exact fun z => g17 z.2.1 | exact fun z => g29 z.2.2.1 | exact fun z => g37 z.2.2.2, rfl, rfl⟩))
      · obtain ⟨m, hma, hmb, rfl⟩ := rg_mp (a := 0) (b := 30) h29 (by omega) (by omega)
        refine r_iload (pc := 32) dX6_guard_32 rfl ?_
        refine iv_X6_217 (c_X6_isWhat _ _ _ _) (pc := 34) dX6_guard_34 ⟨Nat.le_of_ble_eq_true rfl, Nat.le_of_ble_eq_true rfl⟩ (Nat.le_of_ble_eq_true rfl) hcs (kI ?_)
        refine r_ifne_b (tgt := 43) (pc := 37) dX6_guard_37 (by decide) (fun h37 => ?_) (fun h37 => ?_)
        · obtain ⟨p, hpa, hpb, rfl⟩ := rg_mp (a := 0) (b := 1) h37 (by omega) (by omega)
          refine r_aload_n (pc := 43) dX6_guard_43 rfl ?_
          refine iv_X6_204 (d_X6_putAside _ _ _) (pc := 44) dX6_guard_44 rfl ⟨Nat.le_of_ble_eq_true rfl, Nat.le_of_ble_eq_true rfl⟩ (Nat.le_of_ble_eq_true rfl) hcs (kqV (fun N44 r44 => ?_))
          refine r_ldc (pc := 47) dX6_guard_47 lk_X6_149 ?_
          refine r_st [_, _, _, _, _, _, _] (pc := 49) dX6_guard_49 (by decide) rfl rfl ?_
          refine r_iconst (v := nI 0) (pc := 51) dX6_guard_51 (by decide) ?_
          refine r_st [_, _, _, _, _, _, _] (pc := 52) dX6_guard_52 (by decide) rfl rfl ?_
          refine V.bk (loopV (fun (σ : Nat × Mem × Int32) => V κ cX6_guard RX6 7 (some .int) (rmx 8 179) (QM κ PP) (σ.2.1) 54 [some (.ref (gA κ.G 0)), some (.int (nI k)), some (.int (nI q)), some (.int (nI m)), some (.int (nI p)), some (.int (σ.2.2)), some (.int (nI (σ.1)))] []) (fun (σ : Nat × Mem × Int32) => (σ.1) ≤ 2 ^ n ∧ rs M (M 4) (σ.2.1) ∧ (σ.2.2) = gdB (fun i => ¬ nI q < nI (rankN (goP (upd (M 4) 4 (nI i)) n m) k n)) (σ.1)) (fun (σ : Nat × Mem × Int32) => 2 ^ n - (σ.1)) ?_ (0, N44, cNone) ⟨Nat.zero_le _, r44, rfl⟩) rfl (by (repeat (first | exact wk_0 | refine wk_n ?_ | refine wk_s rfl ?_)); done)
          rintro ⟨j, N, u⟩ hI0 ih
          dsimp only at hI0 ih
          obtain ⟨hj, hN, hb⟩ := hI0
          show V κ cX6_guard RX6 7 (some .int) (rmx 8 179) (QM κ PP) N 54 [some (.ref (gA κ.G 0)), some (.int (nI k)), some (.int (nI q)), some (.int (nI m)), some (.int (nI p)), some (.int u), some (.int (nI j))] []
          refine r_iload (pc := 54) dX6_guard_54 rfl ?_
          refine r_iconst (v := nI 1) (pc := 56) dX6_guard_56 (by decide) ?_
          refine r_aload_n (pc := 57) dX6_guard_57 rfl ?_
          refine gf_X6_19 (pc := 58) dX6_guard_58 rfl ?_
          refine r_iconst (v := nI 2) (pc := 61) dX6_guard_61 (by decide) ?_
          refine r_iald (pc := 62) dX6_guard_62 rfl (show _ < 41 by omega) ?_
          refine r_is (nI n) (hN.n2 hn) ?_
          refine r_ishl (pc := 63) dX6_guard_63 ?_
          refine r_is (nI (2 ^ n)) (shl1 n hn6) ?_
          refine r_icmp_ge (tgt := 118) (pc := 64) dX6_guard_64 (by decide) (fun h64 => ?_) (fun h64 => ?_)
          · have h64 : 2 ^ n ≤ j := (nI_leI (by omega) (by omega)).mp h64
            obtain rfl : 2 ^ n = j := by omega
            refine r_iload (pc := 118) dX6_guard_118 rfl ?_
            refine r_if_lt (tgt := 129) (pc := 120) dX6_guard_120 (by decide) (fun h120 => ?_) (fun h120 => ?_)
            · have e9 : (if gdB (fun i => ¬ nI q < nI (rankN (goP (upd (M 4) 4 (nI i)) n m) k n)) (2 ^ n) < 0 ∨ p = 1 then gdB (fun i => ¬ nI q < nI (rankN (goP (upd (M 4) 4 (nI i)) n m) k n)) (2 ^ n) else nI (pop (gdB (fun i => ¬ nI q < nI (rankN (goP (upd (M 4) 4 (nI i)) n m) k n)) (2 ^ n)).toNatClampNeg)) = u := by rw [if_pos (Or.inl (by rw [← hb]; exact h120)), ← hb]
              refine r_iload (pc := 129) dX6_guard_129 rfl ?_
              refine r_goto (tgt := 139) (pc := 131) dX6_guard_131 (by decide) ?_
              exact r_iret (pc := 139) dX6_guard_139 rfl (by subst hPP; exact (Or.inr ⟨k, q, m, p, hk, hqb, hmb, hpb, rfl, rfl, rfl, rfl, by rw [e9], hN.qm⟩))
            · refine r_iload (pc := 123) dX6_guard_123 rfl ?_
              refine r_iconst (v := nI 1) (pc := 125) dX6_guard_125 (by decide) ?_
              refine r_icmp_ne (tgt := 134) (pc := 126) dX6_guard_126 (by decide) (fun h126 => ?_) (fun h126 => ?_)
              · have h126 : p ≠ 1 := fun z => h126 (by rw [z])
                obtain ⟨b, hbj, eb⟩ := gdB_nn (p := (fun i => ¬ nI q < nI (rankN (goP (upd (M 4) 4 (nI i)) n m) k n))) (j := 2 ^ n) (by rw [← hb]; exact h120)
                obtain rfl : u = nI b := hb.trans eb
                have e9 : (if gdB (fun i => ¬ nI q < nI (rankN (goP (upd (M 4) 4 (nI i)) n m) k n)) (2 ^ n) < 0 ∨ p = 1 then gdB (fun i => ¬ nI q < nI (rankN (goP (upd (M 4) 4 (nI i)) n m) k n)) (2 ^ n) else nI (pop (gdB (fun i => ¬ nI q < nI (rankN (goP (upd (M 4) 4 (nI i)) n m) k n)) (2 ^ n)).toNatClampNeg)) = nI (pop b) := by rw [if_neg (by rw [← hb]; rintro (z | z); exact h120 z; exact h126 z), eb, nI_clamp (by omega)]
                refine r_iload (pc := 134) dX6_guard_134 rfl ?_
                refine iv_X6_187 (c_X6_ones _ _ _ _ (by omega)) (pc := 136) dX6_guard_136 ⟨Nat.le_of_ble_eq_true rfl, Nat.le_of_ble_eq_true rfl⟩ (Nat.le_of_ble_eq_true rfl) hcs (kI ?_)
                exact r_iret (pc := 139) dX6_guard_139 rfl (by subst hPP; exact (Or.inr ⟨k, q, m, p, hk, hqb, hmb, hpb, rfl, rfl, rfl, rfl, by rw [e9], hN.qm⟩))
              · have h126 : p = 1 := (nI_eq (by omega) (by omega)).mp h126
                have e9 : (if gdB (fun i => ¬ nI q < nI (rankN (goP (upd (M 4) 4 (nI i)) n m) k n)) (2 ^ n) < 0 ∨ p = 1 then gdB (fun i => ¬ nI q < nI (rankN (goP (upd (M 4) 4 (nI i)) n m) k n)) (2 ^ n) else nI (pop (gdB (fun i => ¬ nI q < nI (rankN (goP (upd (M 4) 4 (nI i)) n m) k n)) (2 ^ n)).toNatClampNeg)) = u := by rw [if_pos (Or.inr h126), ← hb]
                refine r_iload (pc := 129) dX6_guard_129 rfl ?_
                refine r_goto (tgt := 139) (pc := 131) dX6_guard_131 (by decide) ?_
                exact r_iret (pc := 139) dX6_guard_139 rfl (by subst hPP; exact (Or.inr ⟨k, q, m, p, hk, hqb, hmb, hpb, rfl, rfl, rfl, rfl, by rw [e9], hN.qm⟩))
          · have h64 : j < 2 ^ n := Nat.not_le.mp (fun z => h64 ((nI_leI (by omega) (by omega)).mpr z))
            refine r_iload (pc := 67) dX6_guard_67 rfl ?_
            refine r_if_lt (tgt := 85) (pc := 69) dX6_guard_69 (by decide) (fun h69 => ?_) (fun h69 => ?_)
            · have hd : gdB (fun i => ¬ nI q < nI (rankN (goP (upd (M 4) 4 (nI i)) n m) k n)) j < 0 ∨ pop j < pop (gdB (fun i => ¬ nI q < nI (rankN (goP (upd (M 4) 4 (nI i)) n m) k n)) j).toNatClampNeg := Or.inl (by rw [← hb]; exact h69)
              refine r_aload_n (pc := 85) dX6_guard_85 rfl ?_
              refine gf_X6_19 (pc := 86) dX6_guard_86 rfl ?_
              refine r_iconst (v := nI 4) (pc := 89) dX6_guard_89 (by decide) ?_
              refine r_iload (pc := 90) dX6_guard_90 rfl ?_
              refine r_iast (pc := 92) dX6_guard_92 rfl (show _ < 41 by omega) ?_
              refine r_aload_n (pc := 93) dX6_guard_93 rfl ?_
              refine r_iload_n (pc := 94) dX6_guard_94 rfl ?_
              refine r_iload_n (pc := 95) dX6_guard_95 rfl ?_
              refine iv_X6_214 (d_X6_rankBy _ _ M _ _ _ _ n (by omega) (by omega) (hN.put (by omega) _) (by rw [pk_un (by omega)]; exact hn) hn6 (by omega)) (pc := 96) dX6_guard_96 rfl ⟨Nat.le_of_ble_eq_true rfl, Nat.le_of_ble_eq_true rfl⟩ (Nat.le_of_ble_eq_true rfl) hcs (kqI (fun N96 r96 => ?_))
              refine r_iload_n (pc := 99) dX6_guard_99 rfl ?_
              refine t_icmp_gt (tgt := 108) (J := 110) (a := ?pA100x1) (b := ?pB100x1) (pc := 100) dX6_guard_100 (by decide) (fun k100x1 => ?pT100x1) (fun k100x1 => ?pF100x1) ?pK100x1
              case pT100x1 =>
                refine r_iload (pc := 108) dX6_guard_108 rfl ?_
                exact k100x1
              case pF100x1 =>
                refine r_iload (pc := 103) dX6_guard_103 rfl ?_
                refine r_goto (tgt := 110) (pc := 105) dX6_guard_105 (by decide) ?_
                exact k100x1
              case pK100x1 =>
                refine r_st [_, _, _, _, _, _, _] (pc := 110) dX6_guard_110 (by decide) rfl rfl ?_
                first | refine r_inc [_, _, _, _, _, _, _] (pc := 112) dX6_guard_112 rfl (nI_inc _) (by decide) rfl rfl ?_ | refine r_inc [_, _, _, _, _, _, _] (pc := 112) dX6_guard_112 rfl rfl (by decide) rfl rfl ?_
                refine r_goto (tgt := 54) (pc := 115) dX6_guard_115 (by decide) ?_
                first
                  | exact V.bk (ih (j + 1, N96, _) ⟨by omega, r96, by rw [gdB_y hd Classical.not_not.symm, ← hb]⟩ (by omega)) rfl (by (repeat (first | exact wk_0 | refine wk_n ?_ | refine wk_s rfl ?_)); done)
                  | exact V.bk (ih (j + 1, N, _) ⟨by omega, hN, hs.symm⟩ (by omega)) rfl (by (repeat (first | exact wk_0 | refine wk_n ?_ | refine wk_s rfl ?_)); done)
            · obtain ⟨b, hbj, eb⟩ := gdB_nn (p := (fun i => ¬ nI q < nI (rankN (goP (upd (M 4) 4 (nI i)) n m) k n))) (j := j) (by rw [← hb]; exact h69)
              obtain rfl : u = nI b := hb.trans eb
              refine r_iload (pc := 72) dX6_guard_72 rfl ?_
              refine iv_X6_187 (c_X6_ones _ _ _ _ (by omega)) (pc := 74) dX6_guard_74 ⟨Nat.le_of_ble_eq_true rfl, Nat.le_of_ble_eq_true rfl⟩ (Nat.le_of_ble_eq_true rfl) hcs (kI ?_)
              refine r_iload (pc := 77) dX6_guard_77 rfl ?_
              refine iv_X6_187 (c_X6_ones _ _ _ _ (by omega)) (pc := 79) dX6_guard_79 ⟨Nat.le_of_ble_eq_true rfl, Nat.le_of_ble_eq_true rfl⟩ (Nat.le_of_ble_eq_true rfl) hcs (kI ?_)
              refine r_icmp_ge (tgt := 112) (pc := 82) dX6_guard_82 (by decide) (fun h82 => ?_) (fun h82 => ?_)
              · have hs : gdB (fun i => ¬ nI q < nI (rankN (goP (upd (M 4) 4 (nI i)) n m) k n)) (j + 1) = nI b := (gdB_n (by rw [eb, nI_clamp (by omega)]; rintro (z | z); exact h69 z; exact absurd (nI_lt z (by have := pop_le b; omega)) (Int32.not_lt.mpr h82))).trans eb
                first | refine r_inc [_, _, _, _, _, _, _] (pc := 112) dX6_guard_112 rfl (nI_inc _) (by decide) rfl rfl ?_ | refine r_inc [_, _, _, _, _, _, _] (pc := 112) dX6_guard_112 rfl rfl (by decide) rfl rfl ?_
                refine r_goto (tgt := 54) (pc := 115) dX6_guard_115 (by decide) ?_
                first
                  | exact V.bk (ih (j + 1, N96, _) ⟨by omega, r96, by rw [gdB_y hd Classical.not_not.symm, ← hb]⟩ (by omega)) rfl (by (repeat (first | exact wk_0 | refine wk_n ?_ | refine wk_s rfl ?_)); done)
                  | exact V.bk (ih (j + 1, N, _) ⟨by omega, hN, hs.symm⟩ (by omega)) rfl (by (repeat (first | exact wk_0 | refine wk_n ?_ | refine wk_s rfl ?_)); done)
              · have hd : gdB (fun i => ¬ nI q < nI (rankN (goP (upd (M 4) 4 (nI i)) n m) k n)) j < 0 ∨ pop j < pop (gdB (fun i => ¬ nI q < nI (rankN (goP (upd (M 4) 4 (nI i)) n m) k n)) j).toNatClampNeg := Or.inr (by rw [eb, nI_clamp (by omega)]; exact Nat.not_le.mp (fun z => h82 (nI_le z (by have := pop_le j; omega))))
                refine r_aload_n (pc := 85) dX6_guard_85 rfl ?_
                refine gf_X6_19 (pc := 86) dX6_guard_86 rfl ?_
                refine r_iconst (v := nI 4) (pc := 89) dX6_guard_89 (by decide) ?_
                refine r_iload (pc := 90) dX6_guard_90 rfl ?_
                refine r_iast (pc := 92) dX6_guard_92 rfl (show _ < 41 by omega) ?_
                refine r_aload_n (pc := 93) dX6_guard_93 rfl ?_
                refine r_iload_n (pc := 94) dX6_guard_94 rfl ?_
                refine r_iload_n (pc := 95) dX6_guard_95 rfl ?_
                refine iv_X6_214 (d_X6_rankBy _ _ M _ _ _ _ n (by omega) (by omega) (hN.put (by omega) _) (by rw [pk_un (by omega)]; exact hn) hn6 (by omega)) (pc := 96) dX6_guard_96 rfl ⟨Nat.le_of_ble_eq_true rfl, Nat.le_of_ble_eq_true rfl⟩ (Nat.le_of_ble_eq_true rfl) hcs (kqI (fun N96 r96 => ?_))
                refine r_iload_n (pc := 99) dX6_guard_99 rfl ?_
                refine t_icmp_gt (tgt := 108) (J := 110) (a := ?pA100x2) (b := ?pB100x2) (pc := 100) dX6_guard_100 (by decide) (fun k100x2 => ?pT100x2) (fun k100x2 => ?pF100x2) ?pK100x2
                case pT100x2 =>
                  refine r_iload (pc := 108) dX6_guard_108 rfl ?_
                  exact k100x2
                case pF100x2 =>
                  refine r_iload (pc := 103) dX6_guard_103 rfl ?_
                  refine r_goto (tgt := 110) (pc := 105) dX6_guard_105 (by decide) ?_
                  exact k100x2
                case pK100x2 =>
                  refine r_st [_, _, _, _, _, _, _] (pc := 110) dX6_guard_110 (by decide) rfl rfl ?_
                  first | refine r_inc [_, _, _, _, _, _, _] (pc := 112) dX6_guard_112 rfl (nI_inc _) (by decide) rfl rfl ?_ | refine r_inc [_, _, _, _, _, _, _] (pc := 112) dX6_guard_112 rfl rfl (by decide) rfl rfl ?_
                  refine r_goto (tgt := 54) (pc := 115) dX6_guard_115 (by decide) ?_
                  first
                    | exact V.bk (ih (j + 1, N96, _) ⟨by omega, r96, by rw [gdB_y hd Classical.not_not.symm, ← hb]⟩ (by omega)) rfl (by (repeat (first | exact wk_0 | refine wk_n ?_ | refine wk_s rfl ?_)); done)
                    | exact V.bk (ih (j + 1, N, _) ⟨by omega, hN, hs.symm⟩ (by omega)) rfl (by (repeat (first | exact wk_0 | refine wk_n ?_ | refine wk_s rfl ?_)); done)
        · have g37 : ¬ rgG 0 1 w := fun z => h37 (rg_mpr z (by omega))
          refine r_ldc (pc := 40) dX6_guard_40 lk_X6_67 ?_
          exact r_iret (pc := 42) dX6_guard_42 rfl (by subst hPP; exact (Or.inl ⟨by first | exact fun z => g5 z.1 | exact fun z => g17 z.2.1 | exact fun z => g29 z.2.2.1 | exact fun z => g37 z.2.2.2, rfl, rfl⟩))
set_option maxHeartbeats 4000000 in
set_option maxRecDepth 100000 in
theorem c_X6_bestWatch (l : Launch) (G : Gx) (M : Mem) (x y : Int32) (n : Nat) (hn : M 4 2 = nI n) (hn6 : n ≤ 6) (ht : M 0 4 = 0 ↔ n = 0) : Con l G yX6_bestWatch cX6_bestWatch 7 (some .int) 7 156 [.ref (gA G 0), .int x, .int y] M (fun v M' => (n = 0 ∧ rI cState M v M') ∨ (0 < n ∧ ¬ (rgG 1 30 x ∧ rgG 0 1 y) ∧ rI cBad M v M') ∨ (0 < n ∧ ∃ q p, 1 ≤ q ∧ q ≤ 30 ∧ p ≤ 1 ∧ x = nI q ∧ y = nI p ∧ qI (if p = 0 then (bwB (fun i => sumN (goP (upd (M 4) 4 (nI 1 <<< (nI i &&& 31))) n q) 11 n) n).1 else (bwB (fun i => sumN (goP (upd (M 4) 4 (nI 1 <<< (nI i &&& 31))) n q) 11 n) n).2) (qm M) v M')) := by
  refine Con.ofV [some (.ref (gA G 0)), some (.int x), some (.int y), none, none, none, none] RX6 (by decide) rfl (Nat.le_of_ble_eq_true rfl) rfl ?_
  intro κ hl hG hk0 hn0
  subst hl hG
  have hcs : κ.k ≤ 0 ∧ κ.n ≤ 0 := ⟨Nat.le_of_eq hk0, Nat.le_of_eq hn0⟩
  generalize hPP : (fun v M' => (n = 0 ∧ rI cState M v M') ∨ (0 < n ∧ ¬ (rgG 1 30 x ∧ rgG 0 1 y) ∧ rI cBad M v M') ∨ (0 < n ∧ ∃ q p, 1 ≤ q ∧ q ≤ 30 ∧ p ≤ 1 ∧ x = nI q ∧ y = nI p ∧ qI (if p = 0 then (bwB (fun i => sumN (goP (upd (M 4) 4 (nI 1 <<< (nI i &&& 31))) n q) 11 n) n).1 else (bwB (fun i => sumN (goP (upd (M 4) 4 (nI 1 <<< (nI i &&& 31))) n q) 11 n) n).2) (qm M) v M')) = PP
  refine r_aload_n (pc := 0) dX6_bestWatch_0 rfl ?_
  refine gf_X6_135 (pc := 1) dX6_bestWatch_1 rfl ?_
  refine r_if_ne (tgt := 10) (pc := 4) dX6_bestWatch_4 (by decide) (fun h4 => ?_) (fun h4 => ?_)
  · have hn1 : 0 < n := Nat.pos_of_ne_zero (fun z => h4 (ht.mpr z))
    refine r_iload_n (pc := 10) dX6_bestWatch_10 rfl ?_
    refine r_i2l (pc := 11) dX6_bestWatch_11 ?_
    refine r_lconst (v := (nI 1).toInt64) (pc := 12) dX6_bestWatch_12 (by decide) ?_
    refine r_ldc2 (pc := 13) dX6_bestWatch_13 lk_X6_212 ?_
    refine iv_X6_57 (c_X6_inI _ _ _ _ _ _) (pc := 16) dX6_bestWatch_16 ⟨Nat.le_of_ble_eq_true rfl, Nat.le_of_ble_eq_true rfl⟩ (Nat.le_of_ble_eq_true rfl) hcs (kI ?_)
    refine r_ifeq_b (tgt := 29) (pc := 19) dX6_bestWatch_19 (by decide) (fun h19 => ?_) (fun h19 => ?_)
    · have g19 : ¬ rgG 1 30 x := fun z => h19 (rg_mpr z (by omega))
      refine r_ldc (pc := 29) dX6_bestWatch_29 lk_X6_67 ?_
      exact r_iret (pc := 31) dX6_bestWatch_31 rfl (by subst hPP; exact (Or.inr (Or.inl ⟨hn1, by first | exact fun z => g19 z.1 | exact fun z => g26 z.2, rfl, rfl⟩)))
    · obtain ⟨q, hqa, hqb, rfl⟩ := rg_mp (a := 1) (b := 30) h19 (by omega) (by omega)
      refine r_iload_n (pc := 22) dX6_bestWatch_22 rfl ?_
      refine iv_X6_217 (c_X6_isWhat _ _ _ _) (pc := 23) dX6_bestWatch_23 ⟨Nat.le_of_ble_eq_true rfl, Nat.le_of_ble_eq_true rfl⟩ (Nat.le_of_ble_eq_true rfl) hcs (kI ?_)
      refine r_ifne_b (tgt := 32) (pc := 26) dX6_bestWatch_26 (by decide) (fun h26 => ?_) (fun h26 => ?_)
      · obtain ⟨p, hpa, hpb, rfl⟩ := rg_mp (a := 0) (b := 1) h26 (by omega) (by omega)
        refine r_aload_n (pc := 32) dX6_bestWatch_32 rfl ?_
        refine iv_X6_204 (d_X6_putAside _ _ _) (pc := 33) dX6_bestWatch_33 rfl ⟨Nat.le_of_ble_eq_true rfl, Nat.le_of_ble_eq_true rfl⟩ (Nat.le_of_ble_eq_true rfl) hcs (kqV (fun N33 r33 => ?_))
        refine r_iconst (v := nI 0) (pc := 36) dX6_bestWatch_36 (by decide) ?_
        refine r_st_n [_, _, _, _, _, _, _] (pc := 37) dX6_bestWatch_37 (by decide) rfl rfl ?_
        refine r_iconst (v := (-1)) (pc := 38) dX6_bestWatch_38 (by decide) ?_
        refine r_st [_, _, _, _, _, _, _] (pc := 39) dX6_bestWatch_39 (by decide) rfl rfl ?_
        refine r_iconst (v := nI 0) (pc := 41) dX6_bestWatch_41 (by decide) ?_
        refine r_st [_, _, _, _, _, _, _] (pc := 42) dX6_bestWatch_42 (by decide) rfl rfl ?_
        refine V.bk (loopV (fun (σ : Nat × Mem) => V κ cX6_bestWatch RX6 7 (some .int) (rmx 7 156) (QM κ PP) (σ.2) 44 [some (.ref (gA κ.G 0)), some (.int (nI q)), some (.int (nI p)), some (.int (bwB (fun i => sumN (goP (upd (M 4) 4 (nI 1 <<< (nI i &&& 31))) n q) 11 n) (σ.1)).1), some (.int (bwB (fun i => sumN (goP (upd (M 4) 4 (nI 1 <<< (nI i &&& 31))) n q) 11 n) (σ.1)).2), some (.int (nI (σ.1))), none] []) (fun (σ : Nat × Mem) => (σ.1) ≤ n ∧ rs M (M 4) (σ.2)) (fun (σ : Nat × Mem) => n - (σ.1)) ?_ (0, N33) ⟨Nat.zero_le _, r33⟩) rfl (by (repeat (first | exact wk_0 | refine wk_n ?_ | refine wk_s rfl ?_)); done)
        rintro ⟨j, N⟩ hI0 ih
        dsimp only at hI0 ih
        obtain ⟨hj, hN⟩ := hI0
        show V κ cX6_bestWatch RX6 7 (some .int) (rmx 7 156) (QM κ PP) N 44 [some (.ref (gA κ.G 0)), some (.int (nI q)), some (.int (nI p)), some (.int (bwB (fun i => sumN (goP (upd (M 4) 4 (nI 1 <<< (nI i &&& 31))) n q) 11 n) j).1), some (.int (bwB (fun i => sumN (goP (upd (M 4) 4 (nI 1 <<< (nI i &&& 31))) n q) 11 n) j).2), some (.int (nI j)), none] []
        refine r_iload (pc := 44) dX6_bestWatch_44 rfl ?_
        refine r_aload_n (pc := 46) dX6_bestWatch_46 rfl ?_
        refine gf_X6_19 (pc := 47) dX6_bestWatch_47 rfl ?_
        refine r_iconst (v := nI 2) (pc := 50) dX6_bestWatch_50 (by decide) ?_
        refine r_iald (pc := 51) dX6_bestWatch_51 rfl (show _ < 41 by omega) ?_
        refine r_is (nI n) (hN.n2 hn) ?_
        refine r_icmp_ge (tgt := 118) (pc := 52) dX6_bestWatch_52 (by decide) (fun h52 => ?_) (fun h52 => ?_)
        · have h52 : n ≤ j := (nI_leI (by omega) (by omega)).mp h52
          obtain rfl : n = j := by omega
          refine r_iload_n (pc := 118) dX6_bestWatch_118 rfl ?_
          refine r_if_ne (tgt := 126) (pc := 119) dX6_bestWatch_119 (by decide) (fun h119 => ?_) (fun h119 => ?_)
          · have h119 : p ≠ 0 := fun z => h119 (by rw [z]; rfl)
            refine r_iload (pc := 126) dX6_bestWatch_126 rfl ?_
            exact r_iret (pc := 128) dX6_bestWatch_128 rfl (by subst hPP; exact (Or.inr (Or.inr ⟨hn1, q, p, hqa, hqb, hpb, rfl, rfl, by first | rw [if_pos h119] | rw [if_neg h119], hN.qm⟩)))
          · have h119 : p = 0 := (nI_eq (by omega) (by omega)).mp (h119.trans nI_0.symm)
            refine r_iload_n (pc := 122) dX6_bestWatch_122 rfl ?_
            refine r_goto (tgt := 128) (pc := 123) dX6_bestWatch_123 (by decide) ?_
            exact r_iret (pc := 128) dX6_bestWatch_128 rfl (by subst hPP; exact (Or.inr (Or.inr ⟨hn1, q, p, hqa, hqb, hpb, rfl, rfl, by first | rw [if_pos h119] | rw [if_neg h119], hN.qm⟩)))
        · have h52 : j < n := Nat.not_le.mp (fun z => h52 ((nI_leI (by omega) (by omega)).mpr z))
          refine r_aload_n (pc := 55) dX6_bestWatch_55 rfl ?_
          refine gf_X6_19 (pc := 56) dX6_bestWatch_56 rfl ?_
          refine r_iconst (v := nI 4) (pc := 59) dX6_bestWatch_59 (by decide) ?_
          refine r_iconst (v := nI 1) (pc := 60) dX6_bestWatch_60 (by decide) ?_
          refine r_iload (pc := 61) dX6_bestWatch_61 rfl ?_
          refine r_ishl (pc := 63) dX6_bestWatch_63 ?_
          refine r_iast (pc := 64) dX6_bestWatch_64 rfl (show _ < 41 by omega) ?_
          refine r_aload_n (pc := 65) dX6_bestWatch_65 rfl ?_
          refine r_iload_n (pc := 66) dX6_bestWatch_66 rfl ?_
          refine iv_X6_196 (d_X6_goOn _ _ M _ _ _ n (by omega) (hN.put (by omega) _) (by rw [pk_un (by omega)]; exact hn) hn6 hn1) (pc := 67) dX6_bestWatch_67 rfl ⟨Nat.le_of_ble_eq_true rfl, Nat.le_of_ble_eq_true rfl⟩ (Nat.le_of_ble_eq_true rfl) hcs (kqV (fun N67 r67 => ?_))
          refine r_aload_n (pc := 70) dX6_bestWatch_70 rfl ?_
          refine r_bipush (v := nI 11) (pc := 71) dX6_bestWatch_71 (by decide) ?_
          refine iv_X6_209 (c_X6_sumOf _ _ _ _ n (by omega) (r67.n2 ((goP_2 _ n q).trans (by rw [pk_un (by omega)]; exact hn))) hn6) (pc := 73) dX6_bestWatch_73 rfl ⟨Nat.le_of_ble_eq_true rfl, Nat.le_of_ble_eq_true rfl⟩ (Nat.le_of_ble_eq_true rfl) hcs (kI ?_)
          refine r_is ((fun i => sumN (goP (upd (M 4) 4 (nI 1 <<< (nI i &&& 31))) n q) 11 n) j) (by rw [r67.1]) ?_
          refine r_st [_, _, _, _, _, _, _] (pc := 76) dX6_bestWatch_76 (by decide) rfl rfl ?_
          refine r_aload_n (pc := 78) dX6_bestWatch_78 rfl ?_
          refine iv_X6_199 (d_X6_takeBack _ _ M _ _ r67) (pc := 79) dX6_bestWatch_79 rfl ⟨Nat.le_of_ble_eq_true rfl, Nat.le_of_ble_eq_true rfl⟩ (Nat.le_of_ble_eq_true rfl) hcs (kqV (fun N79 r79 => ?_))
          refine r_iload (pc := 82) dX6_bestWatch_82 rfl ?_
          refine r_iload (pc := 84) dX6_bestWatch_84 rfl ?_
          refine t_icmp_le (tgt := 94) (J := 95) (a := ?pA86x1) (b := ?pB86x1) (pc := 86) dX6_bestWatch_86 (by decide) (fun k86x1 => ?pT86x1) (fun k86x1 => ?pF86x1) ?pK86x1
          case pT86x1 =>
            refine r_iload_n (pc := 94) dX6_bestWatch_94 rfl ?_
            exact k86x1
          case pF86x1 =>
            refine r_iload (pc := 89) dX6_bestWatch_89 rfl ?_
            refine r_goto (tgt := 95) (pc := 91) dX6_bestWatch_91 (by decide) ?_
            exact k86x1
          case pK86x1 =>
            refine r_st_n [_, _, _, _, _, _, _] (pc := 95) dX6_bestWatch_95 (by decide) rfl rfl ?_
            refine r_iload (pc := 96) dX6_bestWatch_96 rfl ?_
            refine r_iload (pc := 98) dX6_bestWatch_98 rfl ?_
            refine t_icmp_le (tgt := 108) (J := 110) (a := ?pA100x2) (b := ?pB100x2) (pc := 100) dX6_bestWatch_100 (by decide) (fun k100x2 => ?pT100x2) (fun k100x2 => ?pF100x2) ?pK100x2
            case pT100x2 =>
              refine r_iload (pc := 108) dX6_bestWatch_108 rfl ?_
              exact k100x2
            case pF100x2 =>
              refine r_iload (pc := 103) dX6_bestWatch_103 rfl ?_
              refine r_goto (tgt := 110) (pc := 105) dX6_bestWatch_105 (by decide) ?_
              exact k100x2
            case pK100x2 =>
              refine r_st [_, _, _, _, _, _, _] (pc := 110) dX6_bestWatch_110 (by decide) rfl rfl ?_
              first | refine r_inc [_, _, _, _, _, _, _] (pc := 112) dX6_bestWatch_112 rfl (nI_inc _) (by decide) rfl rfl ?_ | refine r_inc [_, _, _, _, _, _, _] (pc := 112) dX6_bestWatch_112 rfl rfl (by decide) rfl rfl ?_
              refine r_goto (tgt := 44) (pc := 115) dX6_bestWatch_115 (by decide) ?_
              exact V.bk (ih (j + 1, N79) ⟨by omega, r79⟩ (by omega)) rfl (by (repeat (first | exact wk_0 | refine wk_n ?_ | refine wk_s rfl ?_)); done)
      · have g26 : ¬ rgG 0 1 y := fun z => h26 (rg_mpr z (by omega))
        refine r_ldc (pc := 29) dX6_bestWatch_29 lk_X6_67 ?_
        exact r_iret (pc := 31) dX6_bestWatch_31 rfl (by subst hPP; exact (Or.inr (Or.inl ⟨hn1, by first | exact fun z => g19 z.1 | exact fun z => g26 z.2, rfl, rfl⟩)))
  · have g4 : n = 0 := ht.mp h4
    refine r_ldc (pc := 7) dX6_bestWatch_7 lk_X6_169 ?_
    exact r_iret (pc := 9) dX6_bestWatch_9 rfl (by subst hPP; exact (Or.inl ⟨g4, rfl, rfl⟩))
