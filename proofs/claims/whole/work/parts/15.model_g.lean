/-- one that sits so high is above another -/
abbrev isAb (h a h2 b : Int32) : Prop := h2 < h ∨ (h = h2 ∧ a < b)
/-- the most that one lacks of each of those below m -/
def clN (S : Nat → Int32) (k : Nat) : Nat → Int32
  | 0 => nI 0
  | o + 1 => if o ≠ k ∧ ¬ highS S o - highS S k + (if nI k ≤ nI o then nI 0 else nI 1) ≤ clN S k o then highS S o - highS S k + (if nI k ≤ nI o then nI 0 else nI 1) else clN S k o
def hiN (S : Nat → Int32) : Nat → Int32
  | 0 => nI 0
  | c + 1 => hiN S c + highS S c
def hiG (S : Nat → Int32) (g : Nat) : Nat → Int32
  | 0 => nI 0
  | c + 1 => hiG S g c + (if hasB (nI g) (nI c) then highS S c else nI 0)
def sbN (S : Nat → Int32) (n k : Nat) : Nat → Int32
  | 0 => nI 0
  | s + 1 => sbN S n k s ||| (if tgtS S n s = nI k then nI 1 <<< (nI s &&& 31) else nI 0)
def rdN (S : Nat → Int32) (n : Nat) : Nat → Int32
  | 0 => nI 0
  | s + 1 => rdN S n s ||| (if ¬ tgtS S n s < 0 ∧ tgtS S n (tgtS S n s).toNatClampNeg = nI s then nI 1 <<< (nI s &&& 31) else nI 0)
set_option maxHeartbeats 4000000 in
set_option maxRecDepth 100000 in
theorem c_X6_isAbove (l : Launch) (G : Gx) (M : Mem) (h a g b : Int32) : Con l G yX6_isAbove cX6_isAbove 4 (some .boolean) 0 0 [.int h, .int a, .int g, .int b] M (rI (bI (isAb h a g b)) M) := by
  refine Con.ofV [some (.int h), some (.int a), some (.int g), some (.int b)] RX6 (by decide) rfl (Nat.le_of_ble_eq_true rfl) rfl ?_
  intro κ hl hG hk0 hn0
  subst hl hG
  have hcs : κ.k ≤ 0 ∧ κ.n ≤ 0 := ⟨Nat.le_of_eq hk0, Nat.le_of_eq hn0⟩
  refine r_iload_n (pc := 0) dX6_isAbove_0 rfl ?_
  refine r_iload_n (pc := 1) dX6_isAbove_1 rfl ?_
  refine r_icmp_gt (tgt := 15) (pc := 2) dX6_isAbove_2 (by decide) (fun h2 => ?_) (fun h2 => ?_)
  · have hp : isAb h a g b := Or.inl h2
    refine r_iconst (v := nI 1) (pc := 15) dX6_isAbove_15 (by decide) ?_
    refine r_goto (tgt := 20) (pc := 16) dX6_isAbove_16 (by decide) ?_
    exact r_zret (pc := 20) dX6_isAbove_20 rfl (by first | rfl | exact bI_narrow) (by first | exact rI_1 hp | exact rI_0 hp)
  · refine r_iload_n (pc := 5) dX6_isAbove_5 rfl ?_
    refine r_iload_n (pc := 6) dX6_isAbove_6 rfl ?_
    refine r_icmp_ne (tgt := 19) (pc := 7) dX6_isAbove_7 (by decide) (fun h7 => ?_) (fun h7 => ?_)
    · have hp : ¬ isAb h a g b := fun z => z.elim h2 (fun z => h7 z.1)
      refine r_iconst (v := nI 0) (pc := 19) dX6_isAbove_19 (by decide) ?_
      exact r_zret (pc := 20) dX6_isAbove_20 rfl (by first | rfl | exact bI_narrow) (by first | exact rI_1 hp | exact rI_0 hp)
    · refine r_iload_n (pc := 10) dX6_isAbove_10 rfl ?_
      refine r_iload_n (pc := 11) dX6_isAbove_11 rfl ?_
      refine r_icmp_ge (tgt := 19) (pc := 12) dX6_isAbove_12 (by decide) (fun h12 => ?_) (fun h12 => ?_)
      · have hp : ¬ isAb h a g b := fun z => z.elim h2 (fun z => absurd h12 (Int32.not_le.mpr z.2))
        refine r_iconst (v := nI 0) (pc := 19) dX6_isAbove_19 (by decide) ?_
        exact r_zret (pc := 20) dX6_isAbove_20 rfl (by first | rfl | exact bI_narrow) (by first | exact rI_1 hp | exact rI_0 hp)
      · have hp : isAb h a g b := Or.inr ⟨h7, Int32.not_le.mp h12⟩
        refine r_iconst (v := nI 1) (pc := 15) dX6_isAbove_15 (by decide) ?_
        refine r_goto (tgt := 20) (pc := 16) dX6_isAbove_16 (by decide) ?_
        exact r_zret (pc := 20) dX6_isAbove_20 rfl (by first | rfl | exact bI_narrow) (by first | exact rI_1 hp | exact rI_0 hp)
set_option maxHeartbeats 4000000 in
set_option maxRecDepth 100000 in
theorem c_X6_climb (l : Launch) (G : Gx) (M : Mem) (x : Int32) (n : Nat) (hn : M 4 2 = nI n) (hn6 : n ≤ 6) : Con l G yX6_climb cX6_climb 5 (some .int) 2 46 [.ref (gA G 0), .int x] M (fun v M' => (¬ (chG n x) ∧ rI cBad M v M') ∨ (∃ k, k < n ∧ x = nI k ∧ rI (clN (M 4) k n) M v M')) := by
  refine Con.ofV [some (.ref (gA G 0)), some (.int x), none, none, none] RX6 (by decide) rfl (Nat.le_of_ble_eq_true rfl) rfl ?_
  intro κ hl hG hk0 hn0
  subst hl hG
  have hcs : κ.k ≤ 0 ∧ κ.n ≤ 0 := ⟨Nat.le_of_eq hk0, Nat.le_of_eq hn0⟩
  generalize hPP : (fun v M' => (¬ (chG n x) ∧ rI cBad M v M') ∨ (∃ k, k < n ∧ x = nI k ∧ rI (clN (M 4) k n) M v M')) = PP
  refine r_aload_n (pc := 0) dX6_climb_0 rfl ?_
  refine r_iload_n (pc := 1) dX6_climb_1 rfl ?_
  refine iv_X6_178 (c_X6_isChair _ _ _ _) (pc := 2) dX6_climb_2 rfl ⟨Nat.le_of_ble_eq_true rfl, Nat.le_of_ble_eq_true rfl⟩ (Nat.le_of_ble_eq_true rfl) hcs (kI ?_)
  refine r_ifne_b (tgt := 11) (pc := 5) dX6_climb_5 (by decide) (fun h5 => ?_) (fun h5 => ?_)
  · obtain ⟨k, hk, rfl⟩ := ch_mp hn hn6 h5
    refine r_iconst (v := nI 0) (pc := 11) dX6_climb_11 (by decide) ?_
    refine r_st_n [_, _, _, _, _] (pc := 12) dX6_climb_12 (by decide) rfl rfl ?_
    refine r_iconst (v := nI 0) (pc := 13) dX6_climb_13 (by decide) ?_
    refine r_st_n [_, _, _, _, _] (pc := 14) dX6_climb_14 (by decide) rfl rfl ?_
    refine V.bk (loopV (fun (σ : Nat) => V κ cX6_climb RX6 5 (some .int) (rmx 2 46) (QM κ PP) M 15 [some (.ref (gA κ.G 0)), some (.int (nI k)), some (.int (clN (M 4) k σ)), some (.int (nI σ)), none] []) (fun (σ : Nat) => σ ≤ n) (fun (σ : Nat) => n - σ) ?_ 0 (Nat.zero_le _)) rfl (by (repeat (first | exact wk_0 | refine wk_n ?_ | refine wk_s rfl ?_)); done)
    rintro j hj ih
    show V κ cX6_climb RX6 5 (some .int) (rmx 2 46) (QM κ PP) M 15 [some (.ref (gA κ.G 0)), some (.int (nI k)), some (.int (clN (M 4) k j)), some (.int (nI j)), none] []
    refine r_iload_n (pc := 15) dX6_climb_15 rfl ?_
    refine r_aload_n (pc := 16) dX6_climb_16 rfl ?_
    refine gf_X6_19 (pc := 17) dX6_climb_17 rfl ?_
    refine r_iconst (v := nI 2) (pc := 20) dX6_climb_20 (by decide) ?_
    refine r_iald (pc := 21) dX6_climb_21 rfl (show _ < 41 by omega) ?_
    refine r_is (nI n) hn ?_
    refine r_icmp_ge (tgt := 73) (pc := 22) dX6_climb_22 (by decide) (fun h22 => ?_) (fun h22 => ?_)
    · have h22 : n ≤ j := (nI_leI (by omega) (by omega)).mp h22
      obtain rfl : n = j := by omega
      refine r_iload_n (pc := 73) dX6_climb_73 rfl ?_
      exact r_iret (pc := 74) dX6_climb_74 rfl (by subst hPP; exact (Or.inr ⟨k, hk, rfl, rfl, rfl⟩))
    · have h22 : j < n := Nat.not_le.mp (fun z => h22 ((nI_leI (by omega) (by omega)).mpr z))
      refine r_aload_n (pc := 25) dX6_climb_25 rfl ?_
      refine r_iload_n (pc := 26) dX6_climb_26 rfl ?_
      refine iv_X6_146 (c_X6_highOf _ _ _ _ (by omega)) (pc := 27) dX6_climb_27 rfl ⟨Nat.le_of_ble_eq_true rfl, Nat.le_of_ble_eq_true rfl⟩ (Nat.le_of_ble_eq_true rfl) hcs (kI ?_)
      refine r_aload_n (pc := 30) dX6_climb_30 rfl ?_
      refine r_iload_n (pc := 31) dX6_climb_31 rfl ?_
      refine iv_X6_146 (c_X6_highOf _ _ _ _ (by omega)) (pc := 32) dX6_climb_32 rfl ⟨Nat.le_of_ble_eq_true rfl, Nat.le_of_ble_eq_true rfl⟩ (Nat.le_of_ble_eq_true rfl) hcs (kI ?_)
      first | (with_reducible refine r_isubN (pc := 35) dX6_climb_35 ?hle ?_; case hle => omega) | refine r_isub (pc := 35) dX6_climb_35 ?_
      refine r_iload_n (pc := 36) dX6_climb_36 rfl ?_
      refine r_iload_n (pc := 37) dX6_climb_37 rfl ?_
      refine t_icmp_ge (tgt := 45) (J := 46) (a := ?pA38x1) (b := ?pB38x1) (pc := 38) dX6_climb_38 (by decide) (fun k38x1 => ?pT38x1) (fun k38x1 => ?pF38x1) ?pK38x1
      case pT38x1 =>
        refine r_iconst (v := nI 0) (pc := 45) dX6_climb_45 (by decide) ?_
        exact k38x1
      case pF38x1 =>
        refine r_iconst (v := nI 1) (pc := 41) dX6_climb_41 (by decide) ?_
        refine r_goto (tgt := 46) (pc := 42) dX6_climb_42 (by decide) ?_
        exact k38x1
      case pK38x1 =>
        first | with_reducible refine r_iaddN (pc := 46) dX6_climb_46 ?_ | refine r_iadd (pc := 46) dX6_climb_46 ?_
        refine r_st [_, _, _, _, _] (pc := 47) dX6_climb_47 (by decide) rfl rfl ?_
        refine r_iload_n (pc := 49) dX6_climb_49 rfl ?_
        refine r_iload_n (pc := 50) dX6_climb_50 rfl ?_
        refine r_icmp_eq (tgt := 65) (pc := 51) dX6_climb_51 (by decide) (fun h51 => ?_) (fun h51 => ?_)
        · have h51 : j = k := (nI_eq (by omega) (by omega)).mp h51
          have e9 : clN (M 4) k (j + 1) = clN (M 4) k j := if_neg (fun z => z.1 h51)
          refine r_iload_n (pc := 65) dX6_climb_65 rfl ?_
          refine r_st_n [_, _, _, _, _] (pc := 66) dX6_climb_66 (by decide) rfl rfl ?_
          first | refine r_inc [_, _, _, _, _] (pc := 67) dX6_climb_67 rfl (nI_inc _) (by decide) rfl rfl ?_ | refine r_inc [_, _, _, _, _] (pc := 67) dX6_climb_67 rfl rfl (by decide) rfl rfl ?_
          refine r_goto (tgt := 15) (pc := 70) dX6_climb_70 (by decide) ?_
          exact V.bk (ih (j + 1) (by omega) (by omega)) rfl (wk_s rfl (wk_s rfl (wk_s (by rw [e9]) (wk_s rfl (wk_n wk_0)))))
        · have h51 : j ≠ k := fun z => h51 (by rw [z])
          refine r_iload (pc := 54) dX6_climb_54 rfl ?_
          refine r_iload_n (pc := 56) dX6_climb_56 rfl ?_
          refine r_icmp_le (tgt := 65) (pc := 57) dX6_climb_57 (by decide) (fun h57 => ?_) (fun h57 => ?_)
          · have e9 : clN (M 4) k (j + 1) = clN (M 4) k j := if_neg (fun z => z.2 h57)
            refine r_iload_n (pc := 65) dX6_climb_65 rfl ?_
            refine r_st_n [_, _, _, _, _] (pc := 66) dX6_climb_66 (by decide) rfl rfl ?_
            first | refine r_inc [_, _, _, _, _] (pc := 67) dX6_climb_67 rfl (nI_inc _) (by decide) rfl rfl ?_ | refine r_inc [_, _, _, _, _] (pc := 67) dX6_climb_67 rfl rfl (by decide) rfl rfl ?_
            refine r_goto (tgt := 15) (pc := 70) dX6_climb_70 (by decide) ?_
            exact V.bk (ih (j + 1) (by omega) (by omega)) rfl (wk_s rfl (wk_s rfl (wk_s (by rw [e9]) (wk_s rfl (wk_n wk_0)))))
          · have e9 : clN (M 4) k (j + 1) = highS (M 4) j - highS (M 4) k + (if nI k ≤ nI j then nI 0 else nI 1) := if_pos ⟨h51, h57⟩
            refine r_iload (pc := 60) dX6_climb_60 rfl ?_
            refine r_goto (tgt := 66) (pc := 62) dX6_climb_62 (by decide) ?_
            refine r_st_n [_, _, _, _, _] (pc := 66) dX6_climb_66 (by decide) rfl rfl ?_
            first | refine r_inc [_, _, _, _, _] (pc := 67) dX6_climb_67 rfl (nI_inc _) (by decide) rfl rfl ?_ | refine r_inc [_, _, _, _, _] (pc := 67) dX6_climb_67 rfl rfl (by decide) rfl rfl ?_
            refine r_goto (tgt := 15) (pc := 70) dX6_climb_70 (by decide) ?_
            exact V.bk (ih (j + 1) (by omega) (by omega)) rfl (wk_s rfl (wk_s rfl (wk_s (by rw [e9]) (wk_s rfl (wk_n wk_0)))))
  · have g5 : ¬ chG n x := fun z => h5 (ch_mpr hn hn6 z)
    refine r_ldc (pc := 8) dX6_climb_8 lk_X6_67 ?_
    exact r_iret (pc := 10) dX6_climb_10 rfl (by subst hPP; exact (Or.inl ⟨by first | exact fun z => g5 z, rfl, rfl⟩))
set_option maxHeartbeats 4000000 in
set_option maxRecDepth 100000 in
theorem c_X6_coalition (l : Launch) (G : Gx) (M : Mem) (x : Int32) (n : Nat) (hn : M 4 2 = nI n) (hn6 : n ≤ 6) (ht : M 0 4 = 0 ↔ n = 0) : Con l G yX6_coalition cX6_coalition 7 (some .int) 2 45 [.ref (gA G 0), .int x] M (fun v M' => (n = 0 ∧ rI cState M v M') ∨ (0 < n ∧ ¬ (rgG 0 1 x) ∧ rI cBad M v M') ∨ (0 < n ∧ ∃ p, p ≤ 1 ∧ x = nI p ∧ rI (if gdB (fun i => ¬ nI 2 * hiG (M 4) i n ≤ hiN (M 4) n) (2 ^ n) < 0 ∨ p = 1 then gdB (fun i => ¬ nI 2 * hiG (M 4) i n ≤ hiN (M 4) n) (2 ^ n) else nI (pop (gdB (fun i => ¬ nI 2 * hiG (M 4) i n ≤ hiN (M 4) n) (2 ^ n)).toNatClampNeg)) M v M')) := by
  refine Con.ofV [some (.ref (gA G 0)), some (.int x), none, none, none, none, none] RX6 (by decide) rfl (Nat.le_of_ble_eq_true rfl) rfl ?_
  intro κ hl hG hk0 hn0
  subst hl hG
  have hcs : κ.k ≤ 0 ∧ κ.n ≤ 0 := ⟨Nat.le_of_eq hk0, Nat.le_of_eq hn0⟩
  generalize hPP : (fun v M' => (n = 0 ∧ rI cState M v M') ∨ (0 < n ∧ ¬ (rgG 0 1 x) ∧ rI cBad M v M') ∨ (0 < n ∧ ∃ p, p ≤ 1 ∧ x = nI p ∧ rI (if gdB (fun i => ¬ nI 2 * hiG (M 4) i n ≤ hiN (M 4) n) (2 ^ n) < 0 ∨ p = 1 then gdB (fun i => ¬ nI 2 * hiG (M 4) i n ≤ hiN (M 4) n) (2 ^ n) else nI (pop (gdB (fun i => ¬ nI 2 * hiG (M 4) i n ≤ hiN (M 4) n) (2 ^ n)).toNatClampNeg)) M v M')) = PP
  have h64n := two6 n hn6
  refine r_aload_n (pc := 0) dX6_coalition_0 rfl ?_
  refine gf_X6_135 (pc := 1) dX6_coalition_1 rfl ?_
  refine r_if_ne (tgt := 10) (pc := 4) dX6_coalition_4 (by decide) (fun h4 => ?_) (fun h4 => ?_)
  · have hn1 : 0 < n := Nat.pos_of_ne_zero (fun z => h4 (ht.mpr z))
    refine r_iload_n (pc := 10) dX6_coalition_10 rfl ?_
    refine iv_X6_217 (c_X6_isWhat _ _ _ _) (pc := 11) dX6_coalition_11 ⟨Nat.le_of_ble_eq_true rfl, Nat.le_of_ble_eq_true rfl⟩ (Nat.le_of_ble_eq_true rfl) hcs (kI ?_)
    refine r_ifne_b (tgt := 20) (pc := 14) dX6_coalition_14 (by decide) (fun h14 => ?_) (fun h14 => ?_)
    · obtain ⟨p, hpa, hpb, rfl⟩ := rg_mp (a := 0) (b := 1) h14 (by omega) (by omega)
      refine r_iconst (v := nI 0) (pc := 20) dX6_coalition_20 (by decide) ?_
      refine r_st_n [_, _, _, _, _, _, _] (pc := 21) dX6_coalition_21 (by decide) rfl rfl ?_
      refine r_iconst (v := nI 0) (pc := 22) dX6_coalition_22 (by decide) ?_
      refine r_st_n [_, _, _, _, _, _, _] (pc := 23) dX6_coalition_23 (by decide) rfl rfl ?_
      refine V.bk (loopV (fun (σ : Nat) => V κ cX6_coalition RX6 7 (some .int) (rmx 2 45) (QM κ PP) M 24 [some (.ref (gA κ.G 0)), some (.int (nI p)), some (.int (hiN (M 4) σ)), some (.int (nI σ)), none, none, none] []) (fun (σ : Nat) => σ ≤ n) (fun (σ : Nat) => n - σ) ?_ 0 (Nat.zero_le _)) rfl (by (repeat (first | exact wk_0 | refine wk_n ?_ | refine wk_s rfl ?_)); done)
      rintro j hj ih
      show V κ cX6_coalition RX6 7 (some .int) (rmx 2 45) (QM κ PP) M 24 [some (.ref (gA κ.G 0)), some (.int (nI p)), some (.int (hiN (M 4) j)), some (.int (nI j)), none, none, none] []
      refine r_iload_n (pc := 24) dX6_coalition_24 rfl ?_
      refine r_aload_n (pc := 25) dX6_coalition_25 rfl ?_
      refine gf_X6_19 (pc := 26) dX6_coalition_26 rfl ?_
      refine r_iconst (v := nI 2) (pc := 29) dX6_coalition_29 (by decide) ?_
      refine r_iald (pc := 30) dX6_coalition_30 rfl (show _ < 41 by omega) ?_
      refine r_is (nI n) hn ?_
      refine r_icmp_ge (tgt := 48) (pc := 31) dX6_coalition_31 (by decide) (fun h31 => ?_) (fun h31 => ?_)
      · have h31 : n ≤ j := (nI_leI (by omega) (by omega)).mp h31
        obtain rfl : n = j := by omega
        refine r_ldc (pc := 48) dX6_coalition_48 lk_X6_149 ?_
        refine r_st_n [_, _, _, _, _, _, _] (pc := 50) dX6_coalition_50 (by decide) rfl rfl ?_
        refine r_iconst (v := nI 0) (pc := 51) dX6_coalition_51 (by decide) ?_
        refine r_st [_, _, _, _, _, _, _] (pc := 52) dX6_coalition_52 (by decide) rfl rfl ?_
        refine V.bk (loopV (fun (σ : Nat) => V κ cX6_coalition RX6 7 (some .int) (rmx 2 45) (QM κ PP) M 54 [some (.ref (gA κ.G 0)), some (.int (nI p)), some (.int (hiN (M 4) n)), some (.int (gdB (fun i => ¬ nI 2 * hiG (M 4) i n ≤ hiN (M 4) n) σ)), some (.int (nI σ)), none, none] []) (fun (σ : Nat) => σ ≤ 2 ^ n) (fun (σ : Nat) => 2 ^ n - σ) ?_ 0 (Nat.zero_le _)) rfl (by (repeat (first | exact wk_0 | refine wk_n ?_ | refine wk_s rfl ?_)); done)
        rintro g hg ih
        show V κ cX6_coalition RX6 7 (some .int) (rmx 2 45) (QM κ PP) M 54 [some (.ref (gA κ.G 0)), some (.int (nI p)), some (.int (hiN (M 4) n)), some (.int (gdB (fun i => ¬ nI 2 * hiG (M 4) i n ≤ hiN (M 4) n) g)), some (.int (nI g)), none, none] []
        refine r_iload (pc := 54) dX6_coalition_54 rfl ?_
        refine r_iconst (v := nI 1) (pc := 56) dX6_coalition_56 (by decide) ?_
        refine r_aload_n (pc := 57) dX6_coalition_57 rfl ?_
        refine gf_X6_19 (pc := 58) dX6_coalition_58 rfl ?_
        refine r_iconst (v := nI 2) (pc := 61) dX6_coalition_61 (by decide) ?_
        refine r_iald (pc := 62) dX6_coalition_62 rfl (show _ < 41 by omega) ?_
        refine r_is (nI n) hn ?_
        refine r_ishl (pc := 63) dX6_coalition_63 ?_
        refine r_is (nI (2 ^ n)) (shl1 n hn6) ?_
        refine r_icmp_ge (tgt := 152) (pc := 64) dX6_coalition_64 (by decide) (fun h64 => ?_) (fun h64 => ?_)
        · have h64 : 2 ^ n ≤ g := (nI_leI (by omega) (by omega)).mp h64
          obtain rfl : 2 ^ n = g := by omega
          refine r_iload_n (pc := 152) dX6_coalition_152 rfl ?_
          refine r_if_lt (tgt := 161) (pc := 153) dX6_coalition_153 (by decide) (fun h153 => ?_) (fun h153 => ?_)
          · have e9 : (if gdB (fun i => ¬ nI 2 * hiG (M 4) i n ≤ hiN (M 4) n) (2 ^ n) < 0 ∨ p = 1 then gdB (fun i => ¬ nI 2 * hiG (M 4) i n ≤ hiN (M 4) n) (2 ^ n) else nI (pop (gdB (fun i => ¬ nI 2 * hiG (M 4) i n ≤ hiN (M 4) n) (2 ^ n)).toNatClampNeg)) = gdB (fun i => ¬ nI 2 * hiG (M 4) i n ≤ hiN (M 4) n) (2 ^ n) := if_pos (Or.inl h153)
            refine r_iload_n (pc := 161) dX6_coalition_161 rfl ?_
            refine r_goto (tgt := 169) (pc := 162) dX6_coalition_162 (by decide) ?_
            exact r_iret (pc := 169) dX6_coalition_169 rfl (by subst hPP; exact (Or.inr (Or.inr ⟨hn1, p, hpb, rfl, by rw [e9], rfl⟩)))
          · refine r_iload_n (pc := 156) dX6_coalition_156 rfl ?_
            refine r_iconst (v := nI 1) (pc := 157) dX6_coalition_157 (by decide) ?_
            refine r_icmp_ne (tgt := 165) (pc := 158) dX6_coalition_158 (by decide) (fun h158 => ?_) (fun h158 => ?_)
            · have h158 : p ≠ 1 := fun z => h158 (by rw [z])
              obtain ⟨b, hbj, eb⟩ := gdB_nn (p := (fun i => ¬ nI 2 * hiG (M 4) i n ≤ hiN (M 4) n)) (j := 2 ^ n) h153
              have e9 : (if gdB (fun i => ¬ nI 2 * hiG (M 4) i n ≤ hiN (M 4) n) (2 ^ n) < 0 ∨ p = 1 then gdB (fun i => ¬ nI 2 * hiG (M 4) i n ≤ hiN (M 4) n) (2 ^ n) else nI (pop (gdB (fun i => ¬ nI 2 * hiG (M 4) i n ≤ hiN (M 4) n) (2 ^ n)).toNatClampNeg)) = nI (pop b) := by rw [if_neg (fun z => z.elim h153 h158), eb, nI_clamp (by omega)]
              refine V.bk (f' := [none, none, none, some (.int (nI b)), none, none, none]) ?_ rfl (wk_n (wk_n (wk_n (wk_s (by rw [eb]) (wk_n (wk_n (wk_n wk_0)))))))
              refine r_iload_n (pc := 165) dX6_coalition_165 rfl ?_
              refine iv_X6_187 (c_X6_ones _ _ _ _ (by omega)) (pc := 166) dX6_coalition_166 ⟨Nat.le_of_ble_eq_true rfl, Nat.le_of_ble_eq_true rfl⟩ (Nat.le_of_ble_eq_true rfl) hcs (kI ?_)
              exact r_iret (pc := 169) dX6_coalition_169 rfl (by subst hPP; exact (Or.inr (Or.inr ⟨hn1, p, hpb, rfl, by rw [e9], rfl⟩)))
            · have h158 : p = 1 := (nI_eq (by omega) (by omega)).mp h158
              have e9 : (if gdB (fun i => ¬ nI 2 * hiG (M 4) i n ≤ hiN (M 4) n) (2 ^ n) < 0 ∨ p = 1 then gdB (fun i => ¬ nI 2 * hiG (M 4) i n ≤ hiN (M 4) n) (2 ^ n) else nI (pop (gdB (fun i => ¬ nI 2 * hiG (M 4) i n ≤ hiN (M 4) n) (2 ^ n)).toNatClampNeg)) = gdB (fun i => ¬ nI 2 * hiG (M 4) i n ≤ hiN (M 4) n) (2 ^ n) := if_pos (Or.inr h158)
              refine r_iload_n (pc := 161) dX6_coalition_161 rfl ?_
              refine r_goto (tgt := 169) (pc := 162) dX6_coalition_162 (by decide) ?_
              exact r_iret (pc := 169) dX6_coalition_169 rfl (by subst hPP; exact (Or.inr (Or.inr ⟨hn1, p, hpb, rfl, by rw [e9], rfl⟩)))
        · have h64 : g < 2 ^ n := Nat.not_le.mp (fun z => h64 ((nI_leI (by omega) (by omega)).mpr z))
          refine r_iconst (v := nI 0) (pc := 67) dX6_coalition_67 (by decide) ?_
          refine r_st [_, _, _, _, _, _, _] (pc := 68) dX6_coalition_68 (by decide) rfl rfl ?_
          refine r_iconst (v := nI 0) (pc := 70) dX6_coalition_70 (by decide) ?_
          refine r_st [_, _, _, _, _, _, _] (pc := 71) dX6_coalition_71 (by decide) rfl rfl ?_
          refine V.bk (loopV (fun (σ : Nat) => V κ cX6_coalition RX6 7 (some .int) (rmx 2 45) (QM κ PP) M 73 [some (.ref (gA κ.G 0)), some (.int (nI p)), some (.int (hiN (M 4) n)), some (.int (gdB (fun σ => ¬ nI 2 * hiG (M 4) σ n ≤ hiN (M 4) n) g)), some (.int (nI g)), some (.int (hiG (M 4) g σ)), some (.int (nI σ))] []) (fun (σ : Nat) => σ ≤ n) (fun (σ : Nat) => n - σ) ?_ 0 (Nat.zero_le _)) rfl (by (repeat (first | exact wk_0 | refine wk_n ?_ | refine wk_s rfl ?_)); done)
          rintro i hi ih2
          show V κ cX6_coalition RX6 7 (some .int) (rmx 2 45) (QM κ PP) M 73 [some (.ref (gA κ.G 0)), some (.int (nI p)), some (.int (hiN (M 4) n)), some (.int (gdB (fun i => ¬ nI 2 * hiG (M 4) i n ≤ hiN (M 4) n) g)), some (.int (nI g)), some (.int (hiG (M 4) g i)), some (.int (nI i))] []
          refine r_iload (pc := 73) dX6_coalition_73 rfl ?_
          refine r_aload_n (pc := 75) dX6_coalition_75 rfl ?_
          refine gf_X6_19 (pc := 76) dX6_coalition_76 rfl ?_
          refine r_iconst (v := nI 2) (pc := 79) dX6_coalition_79 (by decide) ?_
          refine r_iald (pc := 80) dX6_coalition_80 rfl (show _ < 41 by omega) ?_
          refine r_is (nI n) hn ?_
          refine r_icmp_ge (tgt := 115) (pc := 81) dX6_coalition_81 (by decide) (fun h81 => ?_) (fun h81 => ?_)
          · have h81 : n ≤ i := (nI_leI (by omega) (by omega)).mp h81
            obtain rfl : n = i := by omega
            refine r_iconst (v := nI 2) (pc := 115) dX6_coalition_115 (by decide) ?_
            refine r_iload (pc := 116) dX6_coalition_116 rfl ?_
            refine r_imul (pc := 118) dX6_coalition_118 ?_
            refine r_iload_n (pc := 119) dX6_coalition_119 rfl ?_
            refine r_icmp_le (tgt := 144) (pc := 120) dX6_coalition_120 (by decide) (fun h120 => ?_) (fun h120 => ?_)
            · have e8 : gdB (fun i => ¬ nI 2 * hiG (M 4) i n ≤ hiN (M 4) n) (g + 1) = gdB (fun i => ¬ nI 2 * hiG (M 4) i n ≤ hiN (M 4) n) g := if_neg (fun z => z.2 h120)
              refine r_iload_n (pc := 144) dX6_coalition_144 rfl ?_
              refine r_st_n [_, _, _, _, _, _, _] (pc := 145) dX6_coalition_145 (by decide) rfl rfl ?_
              first | refine r_inc [_, _, _, _, _, _, _] (pc := 146) dX6_coalition_146 rfl (nI_inc _) (by decide) rfl rfl ?_ | refine r_inc [_, _, _, _, _, _, _] (pc := 146) dX6_coalition_146 rfl rfl (by decide) rfl rfl ?_
              refine r_goto (tgt := 54) (pc := 149) dX6_coalition_149 (by decide) ?_
              exact V.bk (ih (g + 1) (by omega) (by omega)) rfl (wk_s rfl (wk_s rfl (wk_s rfl (wk_s (by rw [e8]) (wk_s rfl (wk_n (wk_n wk_0)))))))
            · refine r_iload_n (pc := 123) dX6_coalition_123 rfl ?_
              refine r_if_lt (tgt := 139) (pc := 124) dX6_coalition_124 (by decide) (fun h124 => ?_) (fun h124 => ?_)
              · have e8 : gdB (fun i => ¬ nI 2 * hiG (M 4) i n ≤ hiN (M 4) n) (g + 1) = nI g := if_pos ⟨Or.inl h124, h120⟩
                refine r_iload (pc := 139) dX6_coalition_139 rfl ?_
                refine r_goto (tgt := 145) (pc := 141) dX6_coalition_141 (by decide) ?_
                refine r_st_n [_, _, _, _, _, _, _] (pc := 145) dX6_coalition_145 (by decide) rfl rfl ?_
                first | refine r_inc [_, _, _, _, _, _, _] (pc := 146) dX6_coalition_146 rfl (nI_inc _) (by decide) rfl rfl ?_ | refine r_inc [_, _, _, _, _, _, _] (pc := 146) dX6_coalition_146 rfl rfl (by decide) rfl rfl ?_
                refine r_goto (tgt := 54) (pc := 149) dX6_coalition_149 (by decide) ?_
                exact V.bk (ih (g + 1) (by omega) (by omega)) rfl (wk_s rfl (wk_s rfl (wk_s rfl (wk_s (by rw [e8]) (wk_s rfl (wk_n (wk_n wk_0)))))))
              · obtain ⟨b, hbj, eb⟩ := gdB_nn (p := (fun i => ¬ nI 2 * hiG (M 4) i n ≤ hiN (M 4) n)) (j := g) h124
                refine V.bk (f' := [some (.ref (gA κ.G 0)), some (.int (nI p)), some (.int (hiN (M 4) n)), some (.int (nI b)), some (.int (nI g)), none, none]) ?_ rfl (wk_s rfl (wk_s rfl (wk_s rfl (wk_s (by rw [eb]) (wk_s rfl (wk_n (wk_n wk_0)))))))
                refine r_iload (pc := 127) dX6_coalition_127 rfl ?_
                refine iv_X6_187 (c_X6_ones _ _ _ _ (by omega)) (pc := 129) dX6_coalition_129 ⟨Nat.le_of_ble_eq_true rfl, Nat.le_of_ble_eq_true rfl⟩ (Nat.le_of_ble_eq_true rfl) hcs (kI ?_)
                refine r_iload_n (pc := 132) dX6_coalition_132 rfl ?_
                refine iv_X6_187 (c_X6_ones _ _ _ _ (by omega)) (pc := 133) dX6_coalition_133 ⟨Nat.le_of_ble_eq_true rfl, Nat.le_of_ble_eq_true rfl⟩ (Nat.le_of_ble_eq_true rfl) hcs (kI ?_)
                refine r_icmp_ge (tgt := 144) (pc := 136) dX6_coalition_136 (by decide) (fun h136 => ?_) (fun h136 => ?_)
                · have e8 : gdB (fun i => ¬ nI 2 * hiG (M 4) i n ≤ hiN (M 4) n) (g + 1) = nI b := (if_neg (fun z => by rcases z.1 with z | z; exact h124 z; rw [eb, nI_clamp (by omega)] at z; exact absurd (nI_lt z (by have := pop_le b; omega)) (Int32.not_lt.mpr h136))).trans eb
                  refine r_iload_n (pc := 144) dX6_coalition_144 rfl ?_
                  refine r_st_n [_, _, _, _, _, _, _] (pc := 145) dX6_coalition_145 (by decide) rfl rfl ?_
                  first | refine r_inc [_, _, _, _, _, _, _] (pc := 146) dX6_coalition_146 rfl (nI_inc _) (by decide) rfl rfl ?_ | refine r_inc [_, _, _, _, _, _, _] (pc := 146) dX6_coalition_146 rfl rfl (by decide) rfl rfl ?_
                  refine r_goto (tgt := 54) (pc := 149) dX6_coalition_149 (by decide) ?_
                  exact V.bk (ih (g + 1) (by omega) (by omega)) rfl (wk_s rfl (wk_s rfl (wk_s rfl (wk_s (by rw [e8]) (wk_s rfl (wk_n (wk_n wk_0)))))))
                · have e8 : gdB (fun i => ¬ nI 2 * hiG (M 4) i n ≤ hiN (M 4) n) (g + 1) = nI g := if_pos ⟨Or.inr (by rw [eb, nI_clamp (by omega)]; exact Nat.not_le.mp (fun z => h136 (nI_le z (by have := pop_le g; omega)))), h120⟩
                  refine r_iload (pc := 139) dX6_coalition_139 rfl ?_
                  refine r_goto (tgt := 145) (pc := 141) dX6_coalition_141 (by decide) ?_
                  refine r_st_n [_, _, _, _, _, _, _] (pc := 145) dX6_coalition_145 (by decide) rfl rfl ?_
                  first | refine r_inc [_, _, _, _, _, _, _] (pc := 146) dX6_coalition_146 rfl (nI_inc _) (by decide) rfl rfl ?_ | refine r_inc [_, _, _, _, _, _, _] (pc := 146) dX6_coalition_146 rfl rfl (by decide) rfl rfl ?_
                  refine r_goto (tgt := 54) (pc := 149) dX6_coalition_149 (by decide) ?_
                  exact V.bk (ih (g + 1) (by omega) (by omega)) rfl (wk_s rfl (wk_s rfl (wk_s rfl (wk_s (by rw [e8]) (wk_s rfl (wk_n (wk_n wk_0)))))))
          · have h81 : i < n := Nat.not_le.mp (fun z => h81 ((nI_leI (by omega) (by omega)).mpr z))
            refine r_iload (pc := 84) dX6_coalition_84 rfl ?_
            refine r_iload (pc := 86) dX6_coalition_86 rfl ?_
            refine r_iload (pc := 88) dX6_coalition_88 rfl ?_
            refine iv_X6_162 (c_X6_has _ _ _ _ _) (pc := 90) dX6_coalition_90 ⟨Nat.le_of_ble_eq_true rfl, Nat.le_of_ble_eq_true rfl⟩ (Nat.le_of_ble_eq_true rfl) hcs (kI ?_)
            refine r_ifeq_b (tgt := 105) (pc := 93) dX6_coalition_93 (by decide) (fun h93 => ?_) (fun h93 => ?_)
            · have e9 : hiG (M 4) g (i + 1) = hiG (M 4) g i + nI 0 := by rw [hiG, if_neg h93]
              refine r_iconst (v := nI 0) (pc := 105) dX6_coalition_105 (by decide) ?_
              first | with_reducible refine r_iaddN (pc := 106) dX6_coalition_106 ?_ | refine r_iadd (pc := 106) dX6_coalition_106 ?_
              refine r_st [_, _, _, _, _, _, _] (pc := 107) dX6_coalition_107 (by decide) rfl rfl ?_
              first | refine r_inc [_, _, _, _, _, _, _] (pc := 109) dX6_coalition_109 rfl (nI_inc _) (by decide) rfl rfl ?_ | refine r_inc [_, _, _, _, _, _, _] (pc := 109) dX6_coalition_109 rfl rfl (by decide) rfl rfl ?_
              refine r_goto (tgt := 73) (pc := 112) dX6_coalition_112 (by decide) ?_
              exact V.bk (ih2 (i + 1) (by omega) (by omega)) rfl (wk_s rfl (wk_s rfl (wk_s rfl (wk_s rfl (wk_s rfl (wk_s (by rw [e9]) (wk_s rfl wk_0)))))))
            · have e9 : hiG (M 4) g (i + 1) = hiG (M 4) g i + highS (M 4) i := by rw [hiG, if_pos h93]
              refine r_aload_n (pc := 96) dX6_coalition_96 rfl ?_
              refine r_iload (pc := 97) dX6_coalition_97 rfl ?_
              refine iv_X6_146 (c_X6_highOf _ _ _ _ (by omega)) (pc := 99) dX6_coalition_99 rfl ⟨Nat.le_of_ble_eq_true rfl, Nat.le_of_ble_eq_true rfl⟩ (Nat.le_of_ble_eq_true rfl) hcs (kI ?_)
              refine r_goto (tgt := 106) (pc := 102) dX6_coalition_102 (by decide) ?_
              first | with_reducible refine r_iaddN (pc := 106) dX6_coalition_106 ?_ | refine r_iadd (pc := 106) dX6_coalition_106 ?_
              refine r_st [_, _, _, _, _, _, _] (pc := 107) dX6_coalition_107 (by decide) rfl rfl ?_
              first | refine r_inc [_, _, _, _, _, _, _] (pc := 109) dX6_coalition_109 rfl (nI_inc _) (by decide) rfl rfl ?_ | refine r_inc [_, _, _, _, _, _, _] (pc := 109) dX6_coalition_109 rfl rfl (by decide) rfl rfl ?_
              refine r_goto (tgt := 73) (pc := 112) dX6_coalition_112 (by decide) ?_
              exact V.bk (ih2 (i + 1) (by omega) (by omega)) rfl (wk_s rfl (wk_s rfl (wk_s rfl (wk_s rfl (wk_s rfl (wk_s (by rw [e9]) (wk_s rfl wk_0)))))))
      · have h31 : j < n := Nat.not_le.mp (fun z => h31 ((nI_leI (by omega) (by omega)).mpr z))
        refine r_iload_n (pc := 34) dX6_coalition_34 rfl ?_
        refine r_aload_n (pc := 35) dX6_coalition_35 rfl ?_
        refine r_iload_n (pc := 36) dX6_coalition_36 rfl ?_
        refine iv_X6_146 (c_X6_highOf _ _ _ _ (by omega)) (pc := 37) dX6_coalition_37 rfl ⟨Nat.le_of_ble_eq_true rfl, Nat.le_of_ble_eq_true rfl⟩ (Nat.le_of_ble_eq_true rfl) hcs (kI ?_)
        first | with_reducible refine r_iaddN (pc := 40) dX6_coalition_40 ?_ | refine r_iadd (pc := 40) dX6_coalition_40 ?_
        refine r_st_n [_, _, _, _, _, _, _] (pc := 41) dX6_coalition_41 (by decide) rfl rfl ?_
        first | refine r_inc [_, _, _, _, _, _, _] (pc := 42) dX6_coalition_42 rfl (nI_inc _) (by decide) rfl rfl ?_ | refine r_inc [_, _, _, _, _, _, _] (pc := 42) dX6_coalition_42 rfl rfl (by decide) rfl rfl ?_
        refine r_goto (tgt := 24) (pc := 45) dX6_coalition_45 (by decide) ?_
        exact ih (j + 1) (by omega) (by omega)
    · have g14 : ¬ rgG 0 1 x := fun z => h14 (rg_mpr z (by omega))
      refine r_ldc (pc := 17) dX6_coalition_17 lk_X6_67 ?_
      exact r_iret (pc := 19) dX6_coalition_19 rfl (by subst hPP; exact (Or.inr (Or.inl ⟨hn1, g14, rfl, rfl⟩)))
  · have g4 : n = 0 := ht.mp h4
    refine r_ldc (pc := 7) dX6_coalition_7 lk_X6_169 ?_
    exact r_iret (pc := 9) dX6_coalition_9 rfl (by subst hPP; exact (Or.inl ⟨g4, rfl, rfl⟩))
set_option maxHeartbeats 4000000 in
set_option maxRecDepth 100000 in
theorem c_X6_sawnBy (l : Launch) (G : Gx) (M : Mem) (x : Int32) (n : Nat) (hn : M 4 2 = nI n) (hn6 : n ≤ 6) : Con l G yX6_sawnBy cX6_sawnBy 4 (some .int) 5 111 [.ref (gA G 0), .int x] M (fun v M' => (¬ (chG n x) ∧ rI cBad M v M') ∨ (∃ k, k < n ∧ x = nI k ∧ rI (sbN (M 4) n k n) M v M')) := by
  refine Con.ofV [some (.ref (gA G 0)), some (.int x), none, none] RX6 (by decide) rfl (Nat.le_of_ble_eq_true rfl) rfl ?_
  intro κ hl hG hk0 hn0
  subst hl hG
  have hcs : κ.k ≤ 0 ∧ κ.n ≤ 0 := ⟨Nat.le_of_eq hk0, Nat.le_of_eq hn0⟩
  generalize hPP : (fun v M' => (¬ (chG n x) ∧ rI cBad M v M') ∨ (∃ k, k < n ∧ x = nI k ∧ rI (sbN (M 4) n k n) M v M')) = PP
  refine r_aload_n (pc := 0) dX6_sawnBy_0 rfl ?_
  refine r_iload_n (pc := 1) dX6_sawnBy_1 rfl ?_
  refine iv_X6_178 (c_X6_isChair _ _ _ _) (pc := 2) dX6_sawnBy_2 rfl ⟨Nat.le_of_ble_eq_true rfl, Nat.le_of_ble_eq_true rfl⟩ (Nat.le_of_ble_eq_true rfl) hcs (kI ?_)
  refine r_ifne_b (tgt := 11) (pc := 5) dX6_sawnBy_5 (by decide) (fun h5 => ?_) (fun h5 => ?_)
  · obtain ⟨k, hk, rfl⟩ := ch_mp hn hn6 h5
    refine r_iconst (v := nI 0) (pc := 11) dX6_sawnBy_11 (by decide) ?_
    refine r_st_n [_, _, _, _] (pc := 12) dX6_sawnBy_12 (by decide) rfl rfl ?_
    refine r_iconst (v := nI 0) (pc := 13) dX6_sawnBy_13 (by decide) ?_
    refine r_st_n [_, _, _, _] (pc := 14) dX6_sawnBy_14 (by decide) rfl rfl ?_
    refine V.bk (loopV (fun (σ : Nat) => V κ cX6_sawnBy RX6 4 (some .int) (rmx 5 111) (QM κ PP) M 15 [some (.ref (gA κ.G 0)), some (.int (nI k)), some (.int (sbN (M 4) n k σ)), some (.int (nI σ))] []) (fun (σ : Nat) => σ ≤ n) (fun (σ : Nat) => n - σ) ?_ 0 (Nat.zero_le _)) rfl (by (repeat (first | exact wk_0 | refine wk_n ?_ | refine wk_s rfl ?_)); done)
    rintro j hj ih
    show V κ cX6_sawnBy RX6 4 (some .int) (rmx 5 111) (QM κ PP) M 15 [some (.ref (gA κ.G 0)), some (.int (nI k)), some (.int (sbN (M 4) n k j)), some (.int (nI j))] []
    refine r_iload_n (pc := 15) dX6_sawnBy_15 rfl ?_
    refine r_aload_n (pc := 16) dX6_sawnBy_16 rfl ?_
    refine gf_X6_19 (pc := 17) dX6_sawnBy_17 rfl ?_
    refine r_iconst (v := nI 2) (pc := 20) dX6_sawnBy_20 (by decide) ?_
    refine r_iald (pc := 21) dX6_sawnBy_21 rfl (show _ < 41 by omega) ?_
    refine r_is (nI n) hn ?_
    refine r_icmp_ge (tgt := 50) (pc := 22) dX6_sawnBy_22 (by decide) (fun h22 => ?_) (fun h22 => ?_)
    · have h22 : n ≤ j := (nI_leI (by omega) (by omega)).mp h22
      obtain rfl : n = j := by omega
      refine r_iload_n (pc := 50) dX6_sawnBy_50 rfl ?_
      exact r_iret (pc := 51) dX6_sawnBy_51 rfl (by subst hPP; exact (Or.inr ⟨k, hk, rfl, rfl, rfl⟩))
    · have h22 : j < n := Nat.not_le.mp (fun z => h22 ((nI_leI (by omega) (by omega)).mpr z))
      refine r_iload_n (pc := 25) dX6_sawnBy_25 rfl ?_
      refine r_aload_n (pc := 26) dX6_sawnBy_26 rfl ?_
      refine r_iload_n (pc := 27) dX6_sawnBy_27 rfl ?_
      refine iv_X6_159 (c_X6_targetOf _ _ _ _ n (by omega) hn hn6 (by omega)) (pc := 28) dX6_sawnBy_28 rfl ⟨Nat.le_of_ble_eq_true rfl, Nat.le_of_ble_eq_true rfl⟩ (Nat.le_of_ble_eq_true rfl) hcs (kI ?_)
      refine r_iload_n (pc := 31) dX6_sawnBy_31 rfl ?_
      refine t_icmp_ne (tgt := 41) (J := 42) (a := ?pA32x1) (b := ?pB32x1) (pc := 32) dX6_sawnBy_32 (by decide) (fun k32x1 => ?pT32x1) (fun k32x1 => ?pF32x1) ?pK32x1
      case pT32x1 =>
        refine r_iconst (v := nI 0) (pc := 41) dX6_sawnBy_41 (by decide) ?_
        exact k32x1
      case pF32x1 =>
        refine r_iconst (v := nI 1) (pc := 35) dX6_sawnBy_35 (by decide) ?_
        refine r_iload_n (pc := 36) dX6_sawnBy_36 rfl ?_
        refine r_ishl (pc := 37) dX6_sawnBy_37 ?_
        refine r_goto (tgt := 42) (pc := 38) dX6_sawnBy_38 (by decide) ?_
        exact k32x1
      case pK32x1 =>
        refine r_ior (pc := 42) dX6_sawnBy_42 ?_
        refine r_st_n [_, _, _, _] (pc := 43) dX6_sawnBy_43 (by decide) rfl rfl ?_
        first | refine r_inc [_, _, _, _] (pc := 44) dX6_sawnBy_44 rfl (nI_inc _) (by decide) rfl rfl ?_ | refine r_inc [_, _, _, _] (pc := 44) dX6_sawnBy_44 rfl rfl (by decide) rfl rfl ?_
        refine r_goto (tgt := 15) (pc := 47) dX6_sawnBy_47 (by decide) ?_
        exact ih (j + 1) (by omega) (by omega)
  · have g5 : ¬ chG n x := fun z => h5 (ch_mpr hn hn6 z)
    refine r_ldc (pc := 8) dX6_sawnBy_8 lk_X6_67 ?_
    exact r_iret (pc := 10) dX6_sawnBy_10 rfl (by subst hPP; exact (Or.inl ⟨by first | exact fun z => g5 z, rfl, rfl⟩))
set_option maxHeartbeats 4000000 in
set_option maxRecDepth 100000 in
theorem c_X6_round (l : Launch) (G : Gx) (M : Mem) (n : Nat) (hn : M 4 2 = nI n) (hn6 : n ≤ 6) (ht : M 0 4 = 0 ↔ n = 0) : Con l G yX6_round cX6_round 4 (some .int) 5 111 [.ref (gA G 0)] M (fun v M' => (n = 0 ∧ rI cState M v M') ∨ (0 < n ∧ rI (rdN (M 4) n n) M v M')) := by
  refine Con.ofV [some (.ref (gA G 0)), none, none, none] RX6 (by decide) rfl (Nat.le_of_ble_eq_true rfl) rfl ?_
  intro κ hl hG hk0 hn0
  subst hl hG
  have hcs : κ.k ≤ 0 ∧ κ.n ≤ 0 := ⟨Nat.le_of_eq hk0, Nat.le_of_eq hn0⟩
  generalize hPP : (fun v M' => (n = 0 ∧ rI cState M v M') ∨ (0 < n ∧ rI (rdN (M 4) n n) M v M')) = PP
  refine r_aload_n (pc := 0) dX6_round_0 rfl ?_
  refine gf_X6_135 (pc := 1) dX6_round_1 rfl ?_
  refine r_if_ne (tgt := 10) (pc := 4) dX6_round_4 (by decide) (fun h4 => ?_) (fun h4 => ?_)
  · have hn1 : 0 < n := Nat.pos_of_ne_zero (fun z => h4 (ht.mpr z))
    refine r_iconst (v := nI 0) (pc := 10) dX6_round_10 (by decide) ?_
    refine r_st_n [_, _, _, _] (pc := 11) dX6_round_11 (by decide) rfl rfl ?_
    refine r_iconst (v := nI 0) (pc := 12) dX6_round_12 (by decide) ?_
    refine r_st_n [_, _, _, _] (pc := 13) dX6_round_13 (by decide) rfl rfl ?_
    refine V.bk (loopV (fun (σ : Nat) => V κ cX6_round RX6 4 (some .int) (rmx 5 111) (QM κ PP) M 14 [some (.ref (gA κ.G 0)), some (.int (rdN (M 4) n σ)), some (.int (nI σ)), none] []) (fun (σ : Nat) => σ ≤ n) (fun (σ : Nat) => n - σ) ?_ 0 (Nat.zero_le _)) rfl (by (repeat (first | exact wk_0 | refine wk_n ?_ | refine wk_s rfl ?_)); done)
    rintro j hj ih
    show V κ cX6_round RX6 4 (some .int) (rmx 5 111) (QM κ PP) M 14 [some (.ref (gA κ.G 0)), some (.int (rdN (M 4) n j)), some (.int (nI j)), none] []
    refine r_iload_n (pc := 14) dX6_round_14 rfl ?_
    refine r_aload_n (pc := 15) dX6_round_15 rfl ?_
    refine gf_X6_19 (pc := 16) dX6_round_16 rfl ?_
    refine r_iconst (v := nI 2) (pc := 19) dX6_round_19 (by decide) ?_
    refine r_iald (pc := 20) dX6_round_20 rfl (show _ < 41 by omega) ?_
    refine r_is (nI n) hn ?_
    refine r_icmp_ge (tgt := 59) (pc := 21) dX6_round_21 (by decide) (fun h21 => ?_) (fun h21 => ?_)
    · have h21 : n ≤ j := (nI_leI (by omega) (by omega)).mp h21
      obtain rfl : n = j := by omega
      refine r_iload_n (pc := 59) dX6_round_59 rfl ?_
      exact r_iret (pc := 60) dX6_round_60 rfl (by subst hPP; exact (Or.inr ⟨hn1, rfl, rfl⟩))
    · have h21 : j < n := Nat.not_le.mp (fun z => h21 ((nI_leI (by omega) (by omega)).mpr z))
      refine r_aload_n (pc := 24) dX6_round_24 rfl ?_
      refine r_iload_n (pc := 25) dX6_round_25 rfl ?_
      refine iv_X6_159 (c_X6_targetOf _ _ _ _ n (by omega) hn hn6 hn1) (pc := 26) dX6_round_26 rfl ⟨Nat.le_of_ble_eq_true rfl, Nat.le_of_ble_eq_true rfl⟩ (Nat.le_of_ble_eq_true rfl) hcs (kI ?_)
      refine r_st_n [_, _, _, _] (pc := 29) dX6_round_29 (by decide) rfl rfl ?_
      refine r_iload_n (pc := 30) dX6_round_30 rfl ?_
      refine r_iload_n (pc := 31) dX6_round_31 rfl ?_
      refine r_if_lt (tgt := 50) (pc := 32) dX6_round_32 (by decide) (fun h32 => ?_) (fun h32 => ?_)
      · have e9 : rdN (M 4) n (j + 1) = rdN (M 4) n j ||| nI 0 := by rw [rdN, if_neg (fun z => z.1 h32)]
        refine r_iconst (v := nI 0) (pc := 50) dX6_round_50 (by decide) ?_
        refine r_ior (pc := 51) dX6_round_51 ?_
        refine r_st_n [_, _, _, _] (pc := 52) dX6_round_52 (by decide) rfl rfl ?_
        first | refine r_inc [_, _, _, _] (pc := 53) dX6_round_53 rfl (nI_inc _) (by decide) rfl rfl ?_ | refine r_inc [_, _, _, _] (pc := 53) dX6_round_53 rfl rfl (by decide) rfl rfl ?_
        refine r_goto (tgt := 14) (pc := 56) dX6_round_56 (by decide) ?_
        exact V.bk (ih (j + 1) (by omega) (by omega)) rfl (wk_s rfl (wk_s (by rw [e9]) (wk_s rfl (wk_n wk_0))))
      · obtain ⟨d, hd, ed⟩ := tgtS_nn (M 4) hn1 h32
        refine V.bk (f' := [some (.ref (gA κ.G 0)), some (.int (rdN (M 4) n j)), some (.int (nI j)), some (.int (nI d))]) ?_ rfl (wk_s rfl (wk_s rfl (wk_s rfl (wk_s (by rw [ed]) wk_0))))
        refine r_aload_n (pc := 35) dX6_round_35 rfl ?_
        refine r_iload_n (pc := 36) dX6_round_36 rfl ?_
        refine iv_X6_159 (c_X6_targetOf _ _ _ _ n (by omega) hn hn6 hn1) (pc := 37) dX6_round_37 rfl ⟨Nat.le_of_ble_eq_true rfl, Nat.le_of_ble_eq_true rfl⟩ (Nat.le_of_ble_eq_true rfl) hcs (kI ?_)
        refine r_iload_n (pc := 40) dX6_round_40 rfl ?_
        refine r_icmp_ne (tgt := 50) (pc := 41) dX6_round_41 (by decide) (fun h41 => ?_) (fun h41 => ?_)
        · have e9 : rdN (M 4) n (j + 1) = rdN (M 4) n j ||| nI 0 := by rw [rdN, if_neg (fun z => h41 (by have := z.2; rw [ed, nI_clamp (by omega)] at this; exact this))]
          refine r_iconst (v := nI 0) (pc := 50) dX6_round_50 (by decide) ?_
          refine r_ior (pc := 51) dX6_round_51 ?_
          refine r_st_n [_, _, _, _] (pc := 52) dX6_round_52 (by decide) rfl rfl ?_
          first | refine r_inc [_, _, _, _] (pc := 53) dX6_round_53 rfl (nI_inc _) (by decide) rfl rfl ?_ | refine r_inc [_, _, _, _] (pc := 53) dX6_round_53 rfl rfl (by decide) rfl rfl ?_
          refine r_goto (tgt := 14) (pc := 56) dX6_round_56 (by decide) ?_
          exact V.bk (ih (j + 1) (by omega) (by omega)) rfl (wk_s rfl (wk_s (by rw [e9]) (wk_s rfl (wk_n wk_0))))
        · have e9 : rdN (M 4) n (j + 1) = rdN (M 4) n j ||| nI 1 <<< (nI j &&& 31) := by rw [rdN, if_pos ⟨h32, by rw [ed, nI_clamp (by omega)]; exact h41⟩]
          refine r_iconst (v := nI 1) (pc := 44) dX6_round_44 (by decide) ?_
          refine r_iload_n (pc := 45) dX6_round_45 rfl ?_
          refine r_ishl (pc := 46) dX6_round_46 ?_
          refine r_goto (tgt := 51) (pc := 47) dX6_round_47 (by decide) ?_
          refine r_ior (pc := 51) dX6_round_51 ?_
          refine r_st_n [_, _, _, _] (pc := 52) dX6_round_52 (by decide) rfl rfl ?_
          first | refine r_inc [_, _, _, _] (pc := 53) dX6_round_53 rfl (nI_inc _) (by decide) rfl rfl ?_ | refine r_inc [_, _, _, _] (pc := 53) dX6_round_53 rfl rfl (by decide) rfl rfl ?_
          refine r_goto (tgt := 14) (pc := 56) dX6_round_56 (by decide) ?_
          exact V.bk (ih (j + 1) (by omega) (by omega)) rfl (wk_s rfl (wk_s (by rw [e9]) (wk_s rfl (wk_n wk_0))))
  · have g4 : n = 0 := ht.mp h4
    refine r_ldc (pc := 7) dX6_round_7 lk_X6_169 ?_
    exact r_iret (pc := 9) dX6_round_9 rfl (by subst hPP; exact (Or.inl ⟨g4, rfl, rfl⟩))
set_option maxHeartbeats 4000000 in
set_option maxRecDepth 100000 in
theorem c_X6_enemy (l : Launch) (G : Gx) (M : Mem) (x y z : Int32) (n : Nat) (hn : M 4 2 = nI n) (hn6 : n ≤ 6) : Con l G yX6_enemy cX6_enemy 8 (some .int) 7 156 [.ref (gA G 0), .int x, .int y, .int z] M (fun v M' => (¬ (chG n x ∧ rgG 1 30 y ∧ rgG 0 1 z) ∧ rI cBad M v M') ∨ (∃ k q p, k < n ∧ 1 ≤ q ∧ q ≤ 30 ∧ p ≤ 1 ∧ x = nI k ∧ y = nI q ∧ z = nI p ∧ qI (if p = 0 then (bwB (fun i => highS (goP (upd (M 4) (17 + i) (nI 0)) n q) k) n).1 else (bwB (fun i => highS (goP (upd (M 4) (17 + i) (nI 0)) n q) k) n).2) (qm M) v M')) := by
  refine Con.ofV [some (.ref (gA G 0)), some (.int x), some (.int y), some (.int z), none, none, none, none] RX6 (by decide) rfl (Nat.le_of_ble_eq_true rfl) rfl ?_
  intro κ hl hG hk0 hn0
  subst hl hG
  have hcs : κ.k ≤ 0 ∧ κ.n ≤ 0 := ⟨Nat.le_of_eq hk0, Nat.le_of_eq hn0⟩
  generalize hPP : (fun v M' => (¬ (chG n x ∧ rgG 1 30 y ∧ rgG 0 1 z) ∧ rI cBad M v M') ∨ (∃ k q p, k < n ∧ 1 ≤ q ∧ q ≤ 30 ∧ p ≤ 1 ∧ x = nI k ∧ y = nI q ∧ z = nI p ∧ qI (if p = 0 then (bwB (fun i => highS (goP (upd (M 4) (17 + i) (nI 0)) n q) k) n).1 else (bwB (fun i => highS (goP (upd (M 4) (17 + i) (nI 0)) n q) k) n).2) (qm M) v M')) = PP
  refine r_aload_n (pc := 0) dX6_enemy_0 rfl ?_
  refine r_iload_n (pc := 1) dX6_enemy_1 rfl ?_
  refine iv_X6_178 (c_X6_isChair _ _ _ _) (pc := 2) dX6_enemy_2 rfl ⟨Nat.le_of_ble_eq_true rfl, Nat.le_of_ble_eq_true rfl⟩ (Nat.le_of_ble_eq_true rfl) hcs (kI ?_)
  refine r_ifeq_b (tgt := 27) (pc := 5) dX6_enemy_5 (by decide) (fun h5 => ?_) (fun h5 => ?_)
  · have g5 : ¬ chG n x := fun z => h5 (ch_mpr hn hn6 z)
    refine r_ldc (pc := 27) dX6_enemy_27 lk_X6_67 ?_
    exact r_iret (pc := 29) dX6_enemy_29 rfl (by subst hPP; exact (Or.inl ⟨by first | exact fun z => g5 z.1 | exact fun z => g17 z.2.1 | exact fun z => g24 z.2.2, rfl, rfl⟩))
  · obtain ⟨k, hk, rfl⟩ := ch_mp hn hn6 h5
    refine r_iload_n (pc := 8) dX6_enemy_8 rfl ?_
    refine r_i2l (pc := 9) dX6_enemy_9 ?_
    refine r_lconst (v := (nI 1).toInt64) (pc := 10) dX6_enemy_10 (by decide) ?_
    refine r_ldc2 (pc := 11) dX6_enemy_11 lk_X6_212 ?_
    refine iv_X6_57 (c_X6_inI _ _ _ _ _ _) (pc := 14) dX6_enemy_14 ⟨Nat.le_of_ble_eq_true rfl, Nat.le_of_ble_eq_true rfl⟩ (Nat.le_of_ble_eq_true rfl) hcs (kI ?_)
    refine r_ifeq_b (tgt := 27) (pc := 17) dX6_enemy_17 (by decide) (fun h17 => ?_) (fun h17 => ?_)
    · have g17 : ¬ rgG 1 30 y := fun z => h17 (rg_mpr z (by omega))
      refine r_ldc (pc := 27) dX6_enemy_27 lk_X6_67 ?_
      exact r_iret (pc := 29) dX6_enemy_29 rfl (by subst hPP; exact (Or.inl ⟨by first | exact fun z => g5 z.1 | exact fun z => g17 z.2.1 | exact fun z => g24 z.2.2, rfl, rfl⟩))
    · obtain ⟨q, hqa, hqb, rfl⟩ := rg_mp (a := 1) (b := 30) h17 (by omega) (by omega)
      refine r_iload_n (pc := 20) dX6_enemy_20 rfl ?_
      refine iv_X6_217 (c_X6_isWhat _ _ _ _) (pc := 21) dX6_enemy_21 ⟨Nat.le_of_ble_eq_true rfl, Nat.le_of_ble_eq_true rfl⟩ (Nat.le_of_ble_eq_true rfl) hcs (kI ?_)
      refine r_ifne_b (tgt := 30) (pc := 24) dX6_enemy_24 (by decide) (fun h24 => ?_) (fun h24 => ?_)
      · obtain ⟨p, hpa, hpb, rfl⟩ := rg_mp (a := 0) (b := 1) h24 (by omega) (by omega)
        refine r_aload_n (pc := 30) dX6_enemy_30 rfl ?_
        refine iv_X6_204 (d_X6_putAside _ _ _) (pc := 31) dX6_enemy_31 rfl ⟨Nat.le_of_ble_eq_true rfl, Nat.le_of_ble_eq_true rfl⟩ (Nat.le_of_ble_eq_true rfl) hcs (kqV (fun N31 r31 => ?_))
        refine r_iconst (v := nI 0) (pc := 34) dX6_enemy_34 (by decide) ?_
        refine r_st [_, _, _, _, _, _, _, _] (pc := 35) dX6_enemy_35 (by decide) rfl rfl ?_
        refine r_iconst (v := (-1)) (pc := 37) dX6_enemy_37 (by decide) ?_
        refine r_st [_, _, _, _, _, _, _, _] (pc := 38) dX6_enemy_38 (by decide) rfl rfl ?_
        refine r_iconst (v := nI 0) (pc := 40) dX6_enemy_40 (by decide) ?_
        refine r_st [_, _, _, _, _, _, _, _] (pc := 41) dX6_enemy_41 (by decide) rfl rfl ?_
        refine V.bk (loopV (fun (σ : Nat × Mem) => V κ cX6_enemy RX6 8 (some .int) (rmx 7 156) (QM κ PP) (σ.2) 43 [some (.ref (gA κ.G 0)), some (.int (nI k)), some (.int (nI q)), some (.int (nI p)), some (.int (bwB (fun i => highS (goP (upd (M 4) (17 + i) (nI 0)) n q) k) (σ.1)).1), some (.int (bwB (fun i => highS (goP (upd (M 4) (17 + i) (nI 0)) n q) k) (σ.1)).2), some (.int (nI (σ.1))), none] []) (fun (σ : Nat × Mem) => (σ.1) ≤ n ∧ rs M (M 4) (σ.2)) (fun (σ : Nat × Mem) => n - (σ.1)) ?_ (0, N31) ⟨Nat.zero_le _, r31⟩) rfl (by (repeat (first | exact wk_0 | refine wk_n ?_ | refine wk_s rfl ?_)); done)
        rintro ⟨j, N⟩ hI0 ih
        dsimp only at hI0 ih
        obtain ⟨hj, hN⟩ := hI0
        show V κ cX6_enemy RX6 8 (some .int) (rmx 7 156) (QM κ PP) N 43 [some (.ref (gA κ.G 0)), some (.int (nI k)), some (.int (nI q)), some (.int (nI p)), some (.int (bwB (fun i => highS (goP (upd (M 4) (17 + i) (nI 0)) n q) k) j).1), some (.int (bwB (fun i => highS (goP (upd (M 4) (17 + i) (nI 0)) n q) k) j).2), some (.int (nI j)), none] []
        refine r_iload (pc := 43) dX6_enemy_43 rfl ?_
        refine r_aload_n (pc := 45) dX6_enemy_45 rfl ?_
        refine gf_X6_19 (pc := 46) dX6_enemy_46 rfl ?_
        refine r_iconst (v := nI 2) (pc := 49) dX6_enemy_49 (by decide) ?_
        refine r_iald (pc := 50) dX6_enemy_50 rfl (show _ < 41 by omega) ?_
        refine r_is (nI n) (hN.n2 hn) ?_
        refine r_icmp_ge (tgt := 119) (pc := 51) dX6_enemy_51 (by decide) (fun h51 => ?_) (fun h51 => ?_)
        · have h51 : n ≤ j := (nI_leI (by omega) (by omega)).mp h51
          obtain rfl : n = j := by omega
          refine r_iload_n (pc := 119) dX6_enemy_119 rfl ?_
          refine r_if_ne (tgt := 128) (pc := 120) dX6_enemy_120 (by decide) (fun h120 => ?_) (fun h120 => ?_)
          · have h120 : p ≠ 0 := fun z => h120 (by rw [z]; rfl)
            refine r_iload (pc := 128) dX6_enemy_128 rfl ?_
            exact r_iret (pc := 130) dX6_enemy_130 rfl (by subst hPP; exact (Or.inr ⟨k, q, p, hk, hqa, hqb, hpb, rfl, rfl, rfl, by first | rw [if_pos h120] | rw [if_neg h120], hN.qm⟩))
          · have h120 : p = 0 := (nI_eq (by omega) (by omega)).mp (h120.trans nI_0.symm)
            refine r_iload (pc := 123) dX6_enemy_123 rfl ?_
            refine r_goto (tgt := 130) (pc := 125) dX6_enemy_125 (by decide) ?_
            exact r_iret (pc := 130) dX6_enemy_130 rfl (by subst hPP; exact (Or.inr ⟨k, q, p, hk, hqa, hqb, hpb, rfl, rfl, rfl, by first | rw [if_pos h120] | rw [if_neg h120], hN.qm⟩))
        · have h51 : j < n := Nat.not_le.mp (fun z => h51 ((nI_leI (by omega) (by omega)).mpr z))
          refine r_aload_n (pc := 54) dX6_enemy_54 rfl ?_
          refine gf_X6_19 (pc := 55) dX6_enemy_55 rfl ?_
          refine r_bipush (v := nI 17) (pc := 58) dX6_enemy_58 (by decide) ?_
          refine r_iload (pc := 60) dX6_enemy_60 rfl ?_
          first | with_reducible refine r_iaddN (pc := 62) dX6_enemy_62 ?_ | refine r_iadd (pc := 62) dX6_enemy_62 ?_
          refine r_iconst (v := nI 0) (pc := 63) dX6_enemy_63 (by decide) ?_
          refine r_iast (pc := 64) dX6_enemy_64 rfl (show _ < 41 by omega) ?_
          refine r_aload_n (pc := 65) dX6_enemy_65 rfl ?_
          refine r_iload_n (pc := 66) dX6_enemy_66 rfl ?_
          refine iv_X6_196 (d_X6_goOn _ _ M _ _ _ n (by omega) (hN.put (by omega) _) (by rw [pk_un (by omega)]; exact hn) hn6 (by omega)) (pc := 67) dX6_enemy_67 rfl ⟨Nat.le_of_ble_eq_true rfl, Nat.le_of_ble_eq_true rfl⟩ (Nat.le_of_ble_eq_true rfl) hcs (kqV (fun N67 r67 => ?_))
          refine r_aload_n (pc := 70) dX6_enemy_70 rfl ?_
          refine r_iload_n (pc := 71) dX6_enemy_71 rfl ?_
          refine iv_X6_146 (c_X6_highOf _ _ _ _ (by omega)) (pc := 72) dX6_enemy_72 rfl ⟨Nat.le_of_ble_eq_true rfl, Nat.le_of_ble_eq_true rfl⟩ (Nat.le_of_ble_eq_true rfl) hcs (kI ?_)
          refine r_is ((fun i => highS (goP (upd (M 4) (17 + i) (nI 0)) n q) k) j) (by rw [r67.1]) ?_
          refine r_st [_, _, _, _, _, _, _, _] (pc := 75) dX6_enemy_75 (by decide) rfl rfl ?_
          refine r_aload_n (pc := 77) dX6_enemy_77 rfl ?_
          refine iv_X6_199 (d_X6_takeBack _ _ M _ _ r67) (pc := 78) dX6_enemy_78 rfl ⟨Nat.le_of_ble_eq_true rfl, Nat.le_of_ble_eq_true rfl⟩ (Nat.le_of_ble_eq_true rfl) hcs (kqV (fun N78 r78 => ?_))
          refine r_iload (pc := 81) dX6_enemy_81 rfl ?_
          refine r_iload (pc := 83) dX6_enemy_83 rfl ?_
          refine t_icmp_le (tgt := 93) (J := 95) (a := ?pA85x1) (b := ?pB85x1) (pc := 85) dX6_enemy_85 (by decide) (fun k85x1 => ?pT85x1) (fun k85x1 => ?pF85x1) ?pK85x1
          case pT85x1 =>
            refine r_iload (pc := 93) dX6_enemy_93 rfl ?_
            exact k85x1
          case pF85x1 =>
            refine r_iload (pc := 88) dX6_enemy_88 rfl ?_
            refine r_goto (tgt := 95) (pc := 90) dX6_enemy_90 (by decide) ?_
            exact k85x1
          case pK85x1 =>
            refine r_st [_, _, _, _, _, _, _, _] (pc := 95) dX6_enemy_95 (by decide) rfl rfl ?_
            refine r_iload (pc := 97) dX6_enemy_97 rfl ?_
            refine r_iload (pc := 99) dX6_enemy_99 rfl ?_
            refine t_icmp_le (tgt := 109) (J := 111) (a := ?pA101x2) (b := ?pB101x2) (pc := 101) dX6_enemy_101 (by decide) (fun k101x2 => ?pT101x2) (fun k101x2 => ?pF101x2) ?pK101x2
            case pT101x2 =>
              refine r_iload (pc := 109) dX6_enemy_109 rfl ?_
              exact k101x2
            case pF101x2 =>
              refine r_iload (pc := 104) dX6_enemy_104 rfl ?_
              refine r_goto (tgt := 111) (pc := 106) dX6_enemy_106 (by decide) ?_
              exact k101x2
            case pK101x2 =>
              refine r_st [_, _, _, _, _, _, _, _] (pc := 111) dX6_enemy_111 (by decide) rfl rfl ?_
              first | refine r_inc [_, _, _, _, _, _, _, _] (pc := 113) dX6_enemy_113 rfl (nI_inc _) (by decide) rfl rfl ?_ | refine r_inc [_, _, _, _, _, _, _, _] (pc := 113) dX6_enemy_113 rfl rfl (by decide) rfl rfl ?_
              refine r_goto (tgt := 43) (pc := 116) dX6_enemy_116 (by decide) ?_
              exact V.bk (ih (j + 1, N78) ⟨by omega, r78⟩ (by omega)) rfl (by (repeat (first | exact wk_0 | refine wk_n ?_ | refine wk_s rfl ?_)); done)
      · have g24 : ¬ rgG 0 1 z := fun z => h24 (rg_mpr z (by omega))
        refine r_ldc (pc := 27) dX6_enemy_27 lk_X6_67 ?_
        exact r_iret (pc := 29) dX6_enemy_29 rfl (by subst hPP; exact (Or.inl ⟨by first | exact fun z => g5 z.1 | exact fun z => g17 z.2.1 | exact fun z => g24 z.2.2, rfl, rfl⟩))
