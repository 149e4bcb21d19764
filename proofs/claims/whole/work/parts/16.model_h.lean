def itG (s m : Nat) (i : Int32) : Prop := ∃ q, i = nI q ∧ q + m ≤ s
theorem it_mp {s m : Nat} {i : Int32} (hs : s ≤ 40) (hm : m ≤ 40) (h : nI 0 ≤ i ∧ i ≤ nI s - nI m) : itG s m i := by
  have h1 := (fa_le _ _).mp h.1
  have h2 := (fa_le _ _).mp h.2
  rw [pk_sub_toInt (by omega) (by omega)] at h2
  rw [nI_toInt (by omega)] at h1
  refine ⟨i.toInt.toNat, ?_, by omega⟩
  apply Int32.toInt_inj.mp
  rw [nI_toInt (by omega)]
  omega
theorem it_mpr {s m : Nat} {i : Int32} (hs : s ≤ 40) (hm : m ≤ 40) (h : itG s m i) : nI 0 ≤ i ∧ i ≤ nI s - nI m := by
  obtain ⟨q, rfl, h⟩ := h
  rw [pk_sub (by omega)]
  exact ⟨nI_le (by omega) (by omega), nI_le (by omega) (by omega)⟩
theorem lN_subI {a b : Nat} (ha : a < 2 ^ 31) (hb : b < 2 ^ 31) : (lN a - lN b).toInt = (a : Int) - b := by
  rw [Int64.toInt_sub, lN_toInt ha, lN_toInt hb]
  apply Int.bmod_eq_of_le <;> omega
theorem itL_iff {s m : Nat} {i : Int32} (hs : s ≤ 40) (hm : m < 2 ^ 31) : ((nI 0).toInt64 ≤ i.toInt64 ∧ i.toInt64 ≤ (nI s).toInt64 - (nI m).toInt64) ↔ itG s m i := by
  rw [nI_l (n := s) (by omega), nI_l (n := m) hm, fa_wide_le, fa_le64, lN_subI (by omega) hm, Int32.toInt_toInt64]
  constructor
  · rintro ⟨h1, h2⟩
    have h1 := (fa_le _ _).mp h1
    rw [nI_toInt (by omega)] at h1
    refine ⟨i.toInt.toNat, ?_, by omega⟩
    apply Int32.toInt_inj.mp
    rw [nI_toInt (by omega)]
    omega
  · rintro ⟨q, rfl, h⟩
    rw [nI_toInt (by omega)]
    exact ⟨nI_le (by omega) (by omega), by omega⟩
/-- what is found (1: no row, 2: no such place, 0: nothing) of m items from i on in a row of so many -/
def LC (z i : Int32) (m c : Nat) : Prop := (c = 1 ∧ z < 0) ∨ (∃ s, z = nI s ∧ s ≤ 40 ∧ ((c = 0 ∧ itG s m i) ∨ (c = 2 ∧ ¬ itG s m i)))
def laneV (a v : Int32) : Int32 := if a = 0 then v <<< (nI 24 &&& 31) >>> (nI 24 &&& 31) else if a = nI 1 then v <<< (nI 16 &&& 31) >>> (nI 16 &&& 31) else v
def fnV (c : Nat) : Int32 := -1000010 - nI c
def rowM (M : Mem) (r q s : Nat) : Mem := mset (setA (mset (mset M 1 r (nI q)) 2 r (nI s)) 3 (fb_put (M 3) (fun _ => nI 0) (40 * r) 40)) 0 3 (nI 0)
def copyM (M : Mem) (a i b j m : Nat) : Mem := mset (setA (setA M 5 (pt (M 5) (fun k => M 3 (40 * a + i + k)) m)) 3 (fb_put (M 3) (pt (M 5) (fun k => M 3 (40 * a + i + k)) m) (40 * b + j) m)) 0 3 (nI 0)
theorem le_of_le_nI {z : Int32} {b : Nat} (h0 : 0 ≤ z) (h : z ≤ nI b) (hb : b < 2 ^ 31) : ∃ s, s ≤ b ∧ z = nI s := by
  obtain ⟨q, -, h2, h3⟩ := rg_mp (a := 0) (b := b) ⟨h0, h⟩ (by omega) hb
  exact ⟨q, h2, h3⟩
set_option maxHeartbeats 4000000 in
set_option maxRecDepth 100000 in
theorem c_X6_row (l : Launch) (G : Gx) (M : Mem) (x y z : Int32) : Con l G yX6_row cX6_row 5 (some .int) 2 45 [.ref (gA G 0), .int x, .int y, .int z] M (fun v M' => (¬ (rgG 0 7 x ∧ rgG 0 2 y ∧ z ≤ nI 40) ∧ rI cBad M v M') ∨ (∃ r q, r ≤ 7 ∧ q ≤ 2 ∧ x = nI r ∧ y = nI q ∧ z ≤ nI 40 ∧ ((z < 0 ∧ rI (fnV 4) (mset M 0 3 (nI 4)) v M') ∨ (∃ s, s ≤ 40 ∧ z = nI s ∧ rI (nI s) (rowM M r q s) v M')))) := by
  refine Con.ofV [some (.ref (gA G 0)), some (.int x), some (.int y), some (.int z), none] RX6 (by decide) rfl (Nat.le_of_ble_eq_true rfl) rfl ?_
  intro κ hl hG hk0 hn0
  subst hl hG
  have hcs : κ.k ≤ 0 ∧ κ.n ≤ 0 := ⟨Nat.le_of_eq hk0, Nat.le_of_eq hn0⟩
  generalize hPP : (fun v M' => (¬ (rgG 0 7 x ∧ rgG 0 2 y ∧ z ≤ nI 40) ∧ rI cBad M v M') ∨ (∃ r q, r ≤ 7 ∧ q ≤ 2 ∧ x = nI r ∧ y = nI q ∧ z ≤ nI 40 ∧ ((z < 0 ∧ rI (fnV 4) (mset M 0 3 (nI 4)) v M') ∨ (∃ s, s ≤ 40 ∧ z = nI s ∧ rI (nI s) (rowM M r q s) v M')))) = PP
  refine r_iload_n (pc := 0) dX6_row_0 rfl ?_
  refine iv_X6_61 (c_X6_isRow _ _ _ _) (pc := 1) dX6_row_1 ⟨Nat.le_of_ble_eq_true rfl, Nat.le_of_ble_eq_true rfl⟩ (Nat.le_of_ble_eq_true rfl) hcs (kI ?_)
  refine r_ifeq_b (tgt := 25) (pc := 4) dX6_row_4 (by decide) (fun h4 => ?_) (fun h4 => ?_)
  · have g4 : ¬ rgG 0 7 x := fun z => h4 (rg_mpr z (by omega))
    refine r_ldc (pc := 25) dX6_row_25 lk_X6_67 ?_
    exact r_iret (pc := 27) dX6_row_27 rfl (by subst hPP; exact (Or.inl ⟨by first | exact fun z => g4 z.1 | exact fun z => g16 z.2.1 | exact fun z => h22 z.2.2, rfl, rfl⟩))
  · obtain ⟨r, hra, hrb, rfl⟩ := rg_mp (a := 0) (b := 7) h4 (by omega) (by omega)
    refine r_iload_n (pc := 7) dX6_row_7 rfl ?_
    refine r_i2l (pc := 8) dX6_row_8 ?_
    refine r_lconst (v := (nI 0).toInt64) (pc := 9) dX6_row_9 (by decide) ?_
    refine r_ldc2 (pc := 10) dX6_row_10 lk_X6_65 ?_
    refine iv_X6_57 (c_X6_inI _ _ _ _ _ _) (pc := 13) dX6_row_13 ⟨Nat.le_of_ble_eq_true rfl, Nat.le_of_ble_eq_true rfl⟩ (Nat.le_of_ble_eq_true rfl) hcs (kI ?_)
    refine r_ifeq_b (tgt := 25) (pc := 16) dX6_row_16 (by decide) (fun h16 => ?_) (fun h16 => ?_)
    · have g16 : ¬ rgG 0 2 y := fun z => h16 (rg_mpr z (by omega))
      refine r_ldc (pc := 25) dX6_row_25 lk_X6_67 ?_
      exact r_iret (pc := 27) dX6_row_27 rfl (by subst hPP; exact (Or.inl ⟨by first | exact fun z => g4 z.1 | exact fun z => g16 z.2.1 | exact fun z => h22 z.2.2, rfl, rfl⟩))
    · obtain ⟨q, hqa, hqb, rfl⟩ := rg_mp (a := 0) (b := 2) h16 (by omega) (by omega)
      refine r_iload_n (pc := 19) dX6_row_19 rfl ?_
      refine r_bipush (v := nI 40) (pc := 20) dX6_row_20 (by decide) ?_
      refine r_icmp_le (tgt := 28) (pc := 22) dX6_row_22 (by decide) (fun h22 => ?_) (fun h22 => ?_)
      · refine r_iload_n (pc := 28) dX6_row_28 rfl ?_
        refine r_if_ge (tgt := 38) (pc := 29) dX6_row_29 (by decide) (fun h29 => ?_) (fun h29 => ?_)
        · obtain ⟨s, hs, rfl⟩ := le_of_le_nI h29 h22 (by omega)
          refine r_aload_n (pc := 38) dX6_row_38 rfl ?_
          refine gf_X6_7 (pc := 39) dX6_row_39 rfl ?_
          refine r_iload_n (pc := 42) dX6_row_42 rfl ?_
          refine r_iload_n (pc := 43) dX6_row_43 rfl ?_
          refine r_iast (pc := 44) dX6_row_44 rfl (show _ < 8 by omega) ?_
          refine r_aload_n (pc := 45) dX6_row_45 rfl ?_
          refine gf_X6_13 (pc := 46) dX6_row_46 rfl ?_
          refine r_iload_n (pc := 49) dX6_row_49 rfl ?_
          refine r_iload_n (pc := 50) dX6_row_50 rfl ?_
          refine r_iast (pc := 51) dX6_row_51 rfl (show _ < 8 by omega) ?_
          refine r_iconst (v := nI 0) (pc := 52) dX6_row_52 (by decide) ?_
          refine r_st [_, _, _, _, _] (pc := 53) dX6_row_53 (by decide) rfl rfl ?_
          refine V.bk (loopV (fun (σ : Nat) => V κ cX6_row RX6 5 (some .int) (rmx 2 45) (QM κ PP) (setA (mset (mset M 1 r (nI q)) 2 r (nI s)) 3 (fb_put (M 3) (fun _ => nI 0) (40 * r) σ)) 55 [some (.ref (gA κ.G 0)), some (.int (nI r)), some (.int (nI q)), some (.int (nI s)), some (.int (nI σ))] []) (fun (σ : Nat) => σ ≤ 40) (fun (σ : Nat) => 40 - σ) ?_ 0 (Nat.zero_le _)) (by rw [fb_put_0]; exact (setA_id' _ rfl).symm) (by (repeat (first | exact wk_0 | refine wk_n ?_ | refine wk_s rfl ?_)); done)
          rintro j hj ih
          show V κ cX6_row RX6 5 (some .int) (rmx 2 45) (QM κ PP) (setA (mset (mset M 1 r (nI q)) 2 r (nI s)) 3 (fb_put (M 3) (fun _ => nI 0) (40 * r) j)) 55 [some (.ref (gA κ.G 0)), some (.int (nI r)), some (.int (nI q)), some (.int (nI s)), some (.int (nI j))] []
          refine r_iload (pc := 55) dX6_row_55 rfl ?_
          refine r_bipush (v := nI 40) (pc := 57) dX6_row_57 (by decide) ?_
          refine r_icmp_ge (tgt := 81) (pc := 59) dX6_row_59 (by decide) (fun h59 => ?_) (fun h59 => ?_)
          · have h59 : 40 ≤ j := (nI_leI (by omega) (by omega)).mp h59
            obtain rfl : j = 40 := by omega
            refine r_aload_n (pc := 81) dX6_row_81 rfl ?_
            refine r_iload_n (pc := 82) dX6_row_82 rfl ?_
            refine iv_X6_72 (c_X6_well _ _ _ _) (pc := 83) dX6_row_83 rfl ⟨Nat.le_of_ble_eq_true rfl, Nat.le_of_ble_eq_true rfl⟩ (Nat.le_of_ble_eq_true rfl) hcs (kI ?_)
            exact r_iret (pc := 86) dX6_row_86 rfl (by subst hPP; exact (Or.inr ⟨r, q, hrb, hqb, rfl, rfl, h22, Or.inr ⟨s, hs, rfl, rfl, rfl⟩⟩))
          · have h59 : j < 40 := Nat.not_le.mp (fun z => h59 ((nI_leI (by omega) (by omega)).mpr z))
            refine r_aload_n (pc := 62) dX6_row_62 rfl ?_
            refine gf_X6_16 (pc := 63) dX6_row_63 rfl ?_
            refine r_bipush (v := nI 40) (pc := 66) dX6_row_66 (by decide) ?_
            refine r_iload_n (pc := 68) dX6_row_68 rfl ?_
            first | with_reducible refine r_imulN (pc := 69) dX6_row_69 ?_ | refine r_imul (pc := 69) dX6_row_69 ?_
            refine r_iload (pc := 70) dX6_row_70 rfl ?_
            first | with_reducible refine r_iaddN (pc := 72) dX6_row_72 ?_ | refine r_iadd (pc := 72) dX6_row_72 ?_
            refine r_iconst (v := nI 0) (pc := 73) dX6_row_73 (by decide) ?_
            refine r_iast (pc := 74) dX6_row_74 rfl (show _ < 320 by omega) ?_
            first | refine r_inc [_, _, _, _, _] (pc := 75) dX6_row_75 rfl (nI_inc _) (by decide) rfl rfl ?_ | refine r_inc [_, _, _, _, _] (pc := 75) dX6_row_75 rfl rfl (by decide) rfl rfl ?_
            refine r_goto (tgt := 55) (pc := 78) dX6_row_78 (by decide) ?_
            exact V.bk (ih (j + 1) (by omega) (by omega)) (by rw [mset_setA]; exact congrArg _ (fb_put_succ _ (fun _ => nI 0) _ _)) (by (repeat (first | exact wk_0 | refine wk_n ?_ | refine wk_s rfl ?_)); done)
        · have g29 : z < 0 := Int32.not_le.mp h29
          refine r_aload_n (pc := 32) dX6_row_32 rfl ?_
          refine r_iconst (v := nI 4) (pc := 33) dX6_row_33 (by decide) ?_
          refine iv_X6_68 (c_X6_find _ _ _ _) (pc := 34) dX6_row_34 rfl ⟨Nat.le_of_ble_eq_true rfl, Nat.le_of_ble_eq_true rfl⟩ (Nat.le_of_ble_eq_true rfl) hcs (kI ?_)
          exact r_iret (pc := 37) dX6_row_37 rfl (by subst hPP; exact (Or.inr ⟨r, q, hrb, hqb, rfl, rfl, h22, Or.inl ⟨g29, rfl, rfl⟩⟩))
      · refine r_ldc (pc := 25) dX6_row_25 lk_X6_67 ?_
        exact r_iret (pc := 27) dX6_row_27 rfl (by subst hPP; exact (Or.inl ⟨by first | exact fun z => g4 z.1 | exact fun z => g16 z.2.1 | exact fun z => h22 z.2.2, rfl, rfl⟩))
set_option maxHeartbeats 4000000 in
set_option maxRecDepth 100000 in
theorem c_X6_set (l : Launch) (G : Gx) (M : Mem) (x i u : Int32) (hz : ∀ r, r ≤ 7 → M 2 r < 0 ∨ ∃ s, s ≤ 40 ∧ M 2 r = nI s) : Con l G yX6_set cX6_set 4 (some .int) 2 45 [.ref (gA G 0), .int x, .int i, .int u] M (fun v M' => (¬ rgG 0 7 x ∧ rI cBad M v M') ∨ (∃ r c, r ≤ 7 ∧ x = nI r ∧ LC (M 2 r) i 1 c ∧ ((c ≠ 0 ∧ rI (fnV c) (mset M 0 3 (nI c)) v M') ∨ (c = 0 ∧ ∃ q, q < 40 ∧ i = nI q ∧ rI (laneV (M 1 r) u) (mset (mset M 3 (40 * r + q) (laneV (M 1 r) u)) 0 3 (nI 0)) v M')))) := by
  refine Con.ofV [some (.ref (gA G 0)), some (.int x), some (.int i), some (.int u)] RX6 (by decide) rfl (Nat.le_of_ble_eq_true rfl) rfl ?_
  intro κ hl hG hk0 hn0
  subst hl hG
  have hcs : κ.k ≤ 0 ∧ κ.n ≤ 0 := ⟨Nat.le_of_eq hk0, Nat.le_of_eq hn0⟩
  generalize hPP : (fun v M' => (¬ rgG 0 7 x ∧ rI cBad M v M') ∨ (∃ r c, r ≤ 7 ∧ x = nI r ∧ LC (M 2 r) i 1 c ∧ ((c ≠ 0 ∧ rI (fnV c) (mset M 0 3 (nI c)) v M') ∨ (c = 0 ∧ ∃ q, q < 40 ∧ i = nI q ∧ rI (laneV (M 1 r) u) (mset (mset M 3 (40 * r + q) (laneV (M 1 r) u)) 0 3 (nI 0)) v M')))) = PP
  refine r_iload_n (pc := 0) dX6_set_0 rfl ?_
  refine iv_X6_61 (c_X6_isRow _ _ _ _) (pc := 1) dX6_set_1 ⟨Nat.le_of_ble_eq_true rfl, Nat.le_of_ble_eq_true rfl⟩ (Nat.le_of_ble_eq_true rfl) hcs (kI ?_)
  refine r_ifne_b (tgt := 10) (pc := 4) dX6_set_4 (by decide) (fun h4 => ?_) (fun h4 => ?_)
  · obtain ⟨r, hra, hrb, rfl⟩ := rg_mp (a := 0) (b := 7) h4 (by omega) (by omega)
    refine r_aload_n (pc := 10) dX6_set_10 rfl ?_
    refine gf_X6_13 (pc := 11) dX6_set_11 rfl ?_
    refine r_iload_n (pc := 14) dX6_set_14 rfl ?_
    refine r_iald (pc := 15) dX6_set_15 rfl (show _ < 8 by omega) ?_
    refine r_if_ge (tgt := 25) (pc := 16) dX6_set_16 (by decide) (fun h16 => ?_) (fun h16 => ?_)
    · obtain ⟨s, hs, es⟩ : ∃ s, s ≤ 40 ∧ M 2 r = nI s := (hz r hrb).resolve_left (fun z => absurd h16 (Int32.not_le.mpr z))
      refine r_iload_n (pc := 25) dX6_set_25 rfl ?_
      refine r_i2l (pc := 26) dX6_set_26 ?_
      refine r_lconst (v := (nI 0).toInt64) (pc := 27) dX6_set_27 (by decide) ?_
      refine r_aload_n (pc := 28) dX6_set_28 rfl ?_
      refine gf_X6_13 (pc := 29) dX6_set_29 rfl ?_
      refine r_iload_n (pc := 32) dX6_set_32 rfl ?_
      refine r_iald (pc := 33) dX6_set_33 rfl (show _ < 8 by omega) ?_
      refine r_is (nI s) es ?_
      refine r_iconst (v := nI 1) (pc := 34) dX6_set_34 (by decide) ?_
      refine r_isub (pc := 35) dX6_set_35 ?_
      refine r_i2l (pc := 36) dX6_set_36 ?_
      refine iv_X6_57 (c_X6_inI _ _ _ _ _ _) (pc := 37) dX6_set_37 ⟨Nat.le_of_ble_eq_true rfl, Nat.le_of_ble_eq_true rfl⟩ (Nat.le_of_ble_eq_true rfl) hcs (kI ?_)
      refine r_ifne_b (tgt := 49) (pc := 40) dX6_set_40 (by decide) (fun h40 => ?_) (fun h40 => ?_)
      · obtain ⟨q, rfl, hq⟩ := it_mp (m := 1) hs (by omega) h40
        refine r_aload_n (pc := 49) dX6_set_49 rfl ?_
        refine gf_X6_16 (pc := 50) dX6_set_50 rfl ?_
        refine r_bipush (v := nI 40) (pc := 53) dX6_set_53 (by decide) ?_
        refine r_iload_n (pc := 55) dX6_set_55 rfl ?_
        first | with_reducible refine r_imulN (pc := 56) dX6_set_56 ?_ | refine r_imul (pc := 56) dX6_set_56 ?_
        refine r_iload_n (pc := 57) dX6_set_57 rfl ?_
        first | with_reducible refine r_iaddN (pc := 58) dX6_set_58 ?_ | refine r_iadd (pc := 58) dX6_set_58 ?_
        refine r_aload_n (pc := 59) dX6_set_59 rfl ?_
        refine gf_X6_7 (pc := 60) dX6_set_60 rfl ?_
        refine r_iload_n (pc := 63) dX6_set_63 rfl ?_
        refine r_iald (pc := 64) dX6_set_64 rfl (show _ < 8 by omega) ?_
        refine r_iload_n (pc := 65) dX6_set_65 rfl ?_
        refine iv_X6_75 (c_X6_asLane _ _ _ _ _) (pc := 66) dX6_set_66 ⟨Nat.le_of_ble_eq_true rfl, Nat.le_of_ble_eq_true rfl⟩ (Nat.le_of_ble_eq_true rfl) hcs (kI ?_)
        refine r_iast (pc := 69) dX6_set_69 rfl (show _ < 320 by omega) ?_
        refine r_aload_n (pc := 70) dX6_set_70 rfl ?_
        refine r_aload_n (pc := 71) dX6_set_71 rfl ?_
        refine gf_X6_16 (pc := 72) dX6_set_72 rfl ?_
        refine r_bipush (v := nI 40) (pc := 75) dX6_set_75 (by decide) ?_
        refine r_iload_n (pc := 77) dX6_set_77 rfl ?_
        first | with_reducible refine r_imulN (pc := 78) dX6_set_78 ?_ | refine r_imul (pc := 78) dX6_set_78 ?_
        refine r_iload_n (pc := 79) dX6_set_79 rfl ?_
        first | with_reducible refine r_iaddN (pc := 80) dX6_set_80 ?_ | refine r_iadd (pc := 80) dX6_set_80 ?_
        refine r_iald (pc := 81) dX6_set_81 rfl (show _ < 320 by omega) ?_
        refine r_is (laneV (M 1 r) u) (by rw [mset_eq, pk_us]; rfl) ?_
        refine iv_X6_72 (c_X6_well _ _ _ _) (pc := 82) dX6_set_82 rfl ⟨Nat.le_of_ble_eq_true rfl, Nat.le_of_ble_eq_true rfl⟩ (Nat.le_of_ble_eq_true rfl) hcs (kI ?_)
        exact r_iret (pc := 85) dX6_set_85 rfl (by subst hPP; exact (Or.inr ⟨r, 0, hrb, rfl, Or.inr ⟨s, es, hs, Or.inl ⟨rfl, q, rfl, hq⟩⟩, Or.inr ⟨rfl, q, by omega, rfl, rfl, rfl⟩⟩))
      · have g40 : ¬ itG s 1 i := fun z => h40 (it_mpr hs (by omega) z)
        refine r_aload_n (pc := 43) dX6_set_43 rfl ?_
        refine r_iconst (v := nI 2) (pc := 44) dX6_set_44 (by decide) ?_
        refine iv_X6_68 (c_X6_find _ _ _ _) (pc := 45) dX6_set_45 rfl ⟨Nat.le_of_ble_eq_true rfl, Nat.le_of_ble_eq_true rfl⟩ (Nat.le_of_ble_eq_true rfl) hcs (kI ?_)
        exact r_iret (pc := 48) dX6_set_48 rfl (by subst hPP; exact (Or.inr ⟨r, 2, hrb, rfl, Or.inr ⟨s, es, hs, Or.inr ⟨rfl, g40⟩⟩, Or.inl ⟨by omega, rfl, rfl⟩⟩))
    · have g16 : M 2 r < 0 := Int32.not_le.mp h16
      refine r_aload_n (pc := 19) dX6_set_19 rfl ?_
      refine r_iconst (v := nI 1) (pc := 20) dX6_set_20 (by decide) ?_
      refine iv_X6_68 (c_X6_find _ _ _ _) (pc := 21) dX6_set_21 rfl ⟨Nat.le_of_ble_eq_true rfl, Nat.le_of_ble_eq_true rfl⟩ (Nat.le_of_ble_eq_true rfl) hcs (kI ?_)
      exact r_iret (pc := 24) dX6_set_24 rfl (by subst hPP; exact (Or.inr ⟨r, 1, hrb, rfl, Or.inl ⟨rfl, g16⟩, Or.inl ⟨by omega, rfl, rfl⟩⟩))
  · have g4 : ¬ rgG 0 7 x := fun z => h4 (rg_mpr z (by omega))
    refine r_ldc (pc := 7) dX6_set_7 lk_X6_67 ?_
    exact r_iret (pc := 9) dX6_set_9 rfl (by subst hPP; exact (Or.inl ⟨g4, rfl, rfl⟩))
set_option maxHeartbeats 4000000 in
set_option maxRecDepth 100000 in
theorem c_X6_drop (l : Launch) (G : Gx) (M : Mem) (x : Int32) (hz : ∀ r, r ≤ 7 → M 2 r < 0 ∨ ∃ s, s ≤ 40 ∧ M 2 r = nI s) : Con l G yX6_drop cX6_drop 3 (some .int) 2 45 [.ref (gA G 0), .int x] M (fun v M' => (¬ rgG 0 7 x ∧ rI cBad M v M') ∨ (∃ r, r ≤ 7 ∧ x = nI r ∧ ((M 2 r < 0 ∧ rI (fnV 1) (mset M 0 3 (nI 1)) v M') ∨ (∃ s, s ≤ 40 ∧ M 2 r = nI s ∧ rI (nI s) (mset (mset M 2 r (-1)) 0 3 (nI 0)) v M')))) := by
  refine Con.ofV [some (.ref (gA G 0)), some (.int x), none] RX6 (by decide) rfl (Nat.le_of_ble_eq_true rfl) rfl ?_
  intro κ hl hG hk0 hn0
  subst hl hG
  have hcs : κ.k ≤ 0 ∧ κ.n ≤ 0 := ⟨Nat.le_of_eq hk0, Nat.le_of_eq hn0⟩
  generalize hPP : (fun v M' => (¬ rgG 0 7 x ∧ rI cBad M v M') ∨ (∃ r, r ≤ 7 ∧ x = nI r ∧ ((M 2 r < 0 ∧ rI (fnV 1) (mset M 0 3 (nI 1)) v M') ∨ (∃ s, s ≤ 40 ∧ M 2 r = nI s ∧ rI (nI s) (mset (mset M 2 r (-1)) 0 3 (nI 0)) v M')))) = PP
  refine r_iload_n (pc := 0) dX6_drop_0 rfl ?_
  refine iv_X6_61 (c_X6_isRow _ _ _ _) (pc := 1) dX6_drop_1 ⟨Nat.le_of_ble_eq_true rfl, Nat.le_of_ble_eq_true rfl⟩ (Nat.le_of_ble_eq_true rfl) hcs (kI ?_)
  refine r_ifne_b (tgt := 10) (pc := 4) dX6_drop_4 (by decide) (fun h4 => ?_) (fun h4 => ?_)
  · obtain ⟨r, hra, hrb, rfl⟩ := rg_mp (a := 0) (b := 7) h4 (by omega) (by omega)
    refine r_aload_n (pc := 10) dX6_drop_10 rfl ?_
    refine gf_X6_13 (pc := 11) dX6_drop_11 rfl ?_
    refine r_iload_n (pc := 14) dX6_drop_14 rfl ?_
    refine r_iald (pc := 15) dX6_drop_15 rfl (show _ < 8 by omega) ?_
    refine r_if_ge (tgt := 25) (pc := 16) dX6_drop_16 (by decide) (fun h16 => ?_) (fun h16 => ?_)
    · obtain ⟨s, hs, es⟩ : ∃ s, s ≤ 40 ∧ M 2 r = nI s := (hz r hrb).resolve_left (fun z => absurd h16 (Int32.not_le.mpr z))
      refine r_aload_n (pc := 25) dX6_drop_25 rfl ?_
      refine gf_X6_13 (pc := 26) dX6_drop_26 rfl ?_
      refine r_iload_n (pc := 29) dX6_drop_29 rfl ?_
      refine r_iald (pc := 30) dX6_drop_30 rfl (show _ < 8 by omega) ?_
      refine r_is (nI s) es ?_
      refine r_st_n [_, _, _] (pc := 31) dX6_drop_31 (by decide) rfl rfl ?_
      refine r_aload_n (pc := 32) dX6_drop_32 rfl ?_
      refine gf_X6_13 (pc := 33) dX6_drop_33 rfl ?_
      refine r_iload_n (pc := 36) dX6_drop_36 rfl ?_
      refine r_iconst (v := (-1)) (pc := 37) dX6_drop_37 (by decide) ?_
      refine r_iast (pc := 38) dX6_drop_38 rfl (show _ < 8 by omega) ?_
      refine r_aload_n (pc := 39) dX6_drop_39 rfl ?_
      refine r_iload_n (pc := 40) dX6_drop_40 rfl ?_
      refine iv_X6_72 (c_X6_well _ _ _ _) (pc := 41) dX6_drop_41 rfl ⟨Nat.le_of_ble_eq_true rfl, Nat.le_of_ble_eq_true rfl⟩ (Nat.le_of_ble_eq_true rfl) hcs (kI ?_)
      exact r_iret (pc := 44) dX6_drop_44 rfl (by subst hPP; exact (Or.inr ⟨r, hrb, rfl, Or.inr ⟨s, hs, es, rfl, rfl⟩⟩))
    · have g16 : M 2 r < 0 := Int32.not_le.mp h16
      refine r_aload_n (pc := 19) dX6_drop_19 rfl ?_
      refine r_iconst (v := nI 1) (pc := 20) dX6_drop_20 (by decide) ?_
      refine iv_X6_68 (c_X6_find _ _ _ _) (pc := 21) dX6_drop_21 rfl ⟨Nat.le_of_ble_eq_true rfl, Nat.le_of_ble_eq_true rfl⟩ (Nat.le_of_ble_eq_true rfl) hcs (kI ?_)
      exact r_iret (pc := 24) dX6_drop_24 rfl (by subst hPP; exact (Or.inr ⟨r, hrb, rfl, Or.inl ⟨g16, rfl, rfl⟩⟩))
  · have g4 : ¬ rgG 0 7 x := fun z => h4 (rg_mpr z (by omega))
    refine r_ldc (pc := 7) dX6_drop_7 lk_X6_67 ?_
    exact r_iret (pc := 9) dX6_drop_9 rfl (by subst hPP; exact (Or.inl ⟨g4, rfl, rfl⟩))
set_option maxHeartbeats 4000000 in
set_option maxRecDepth 100000 in
theorem c_X6_copy (l : Launch) (G : Gx) (M : Mem) (x i y j w : Int32) (hz : ∀ r, r ≤ 7 → M 2 r < 0 ∨ ∃ s, s ≤ 40 ∧ M 2 r = nI s) : Con l G yX6_copy cX6_copy 7 (some .int) 2 45 [.ref (gA G 0), .int x, .int i, .int y, .int j, .int w] M (fun v M' => (¬ (rgG 0 7 x ∧ rgG 0 7 y) ∧ rI cBad M v M') ∨ (∃ a b, a ≤ 7 ∧ b ≤ 7 ∧ x = nI a ∧ y = nI b ∧ (((M 2 a < 0 ∨ M 2 b < 0) ∧ rI (fnV 1) (mset M 0 3 (nI 1)) v M') ∨ (∃ s t, s ≤ 40 ∧ t ≤ 40 ∧ M 2 a = nI s ∧ M 2 b = nI t ∧ ((¬ M 1 a = M 1 b ∧ rI (fnV 5) (mset M 0 3 (nI 5)) v M') ∨ (M 1 a = M 1 b ∧ ((¬ (∃ m p q, w = nI m ∧ i = nI p ∧ j = nI q ∧ p + m ≤ s ∧ q + m ≤ t) ∧ rI (fnV 2) (mset M 0 3 (nI 2)) v M') ∨ (∃ m p q, w = nI m ∧ i = nI p ∧ j = nI q ∧ p + m ≤ s ∧ q + m ≤ t ∧ rI (nI m) (copyM M a p b q m) v M')))))))) := by
  refine Con.ofV [some (.ref (gA G 0)), some (.int x), some (.int i), some (.int y), some (.int j), some (.int w), none] RX6 (by decide) rfl (Nat.le_of_ble_eq_true rfl) rfl ?_
  intro κ hl hG hk0 hn0
  subst hl hG
  have hcs : κ.k ≤ 0 ∧ κ.n ≤ 0 := ⟨Nat.le_of_eq hk0, Nat.le_of_eq hn0⟩
  generalize hPP : (fun v M' => (¬ (rgG 0 7 x ∧ rgG 0 7 y) ∧ rI cBad M v M') ∨ (∃ a b, a ≤ 7 ∧ b ≤ 7 ∧ x = nI a ∧ y = nI b ∧ (((M 2 a < 0 ∨ M 2 b < 0) ∧ rI (fnV 1) (mset M 0 3 (nI 1)) v M') ∨ (∃ s t, s ≤ 40 ∧ t ≤ 40 ∧ M 2 a = nI s ∧ M 2 b = nI t ∧ ((¬ M 1 a = M 1 b ∧ rI (fnV 5) (mset M 0 3 (nI 5)) v M') ∨ (M 1 a = M 1 b ∧ ((¬ (∃ m p q, w = nI m ∧ i = nI p ∧ j = nI q ∧ p + m ≤ s ∧ q + m ≤ t) ∧ rI (fnV 2) (mset M 0 3 (nI 2)) v M') ∨ (∃ m p q, w = nI m ∧ i = nI p ∧ j = nI q ∧ p + m ≤ s ∧ q + m ≤ t ∧ rI (nI m) (copyM M a p b q m) v M')))))))) = PP
  refine r_iload_n (pc := 0) dX6_copy_0 rfl ?_
  refine iv_X6_61 (c_X6_isRow _ _ _ _) (pc := 1) dX6_copy_1 ⟨Nat.le_of_ble_eq_true rfl, Nat.le_of_ble_eq_true rfl⟩ (Nat.le_of_ble_eq_true rfl) hcs (kI ?_)
  refine r_ifeq_b (tgt := 14) (pc := 4) dX6_copy_4 (by decide) (fun h4 => ?_) (fun h4 => ?_)
  · have g4 : ¬ rgG 0 7 x := fun z => h4 (rg_mpr z (by omega))
    refine r_ldc (pc := 14) dX6_copy_14 lk_X6_67 ?_
    exact r_iret (pc := 16) dX6_copy_16 rfl (by subst hPP; exact (Or.inl ⟨by first | exact fun z => g4 z.1 | exact fun z => g11 z.2, rfl, rfl⟩))
  · obtain ⟨a, haa, hab, rfl⟩ := rg_mp (a := 0) (b := 7) h4 (by omega) (by omega)
    refine r_iload_n (pc := 7) dX6_copy_7 rfl ?_
    refine iv_X6_61 (c_X6_isRow _ _ _ _) (pc := 8) dX6_copy_8 ⟨Nat.le_of_ble_eq_true rfl, Nat.le_of_ble_eq_true rfl⟩ (Nat.le_of_ble_eq_true rfl) hcs (kI ?_)
    refine r_ifne_b (tgt := 17) (pc := 11) dX6_copy_11 (by decide) (fun h11 => ?_) (fun h11 => ?_)
    · obtain ⟨b, hba, hbb, rfl⟩ := rg_mp (a := 0) (b := 7) h11 (by omega) (by omega)
      refine r_aload_n (pc := 17) dX6_copy_17 rfl ?_
      refine gf_X6_13 (pc := 18) dX6_copy_18 rfl ?_
      refine r_iload_n (pc := 21) dX6_copy_21 rfl ?_
      refine r_iald (pc := 22) dX6_copy_22 rfl (show _ < 8 by omega) ?_
      refine r_if_lt (tgt := 35) (pc := 23) dX6_copy_23 (by decide) (fun h23 => ?_) (fun h23 => ?_)
      · have g32 : M 2 a < 0 ∨ M 2 b < 0 := Or.inl h23
        refine r_aload_n (pc := 35) dX6_copy_35 rfl ?_
        refine r_iconst (v := nI 1) (pc := 36) dX6_copy_36 (by decide) ?_
        refine iv_X6_68 (c_X6_find _ _ _ _) (pc := 37) dX6_copy_37 rfl ⟨Nat.le_of_ble_eq_true rfl, Nat.le_of_ble_eq_true rfl⟩ (Nat.le_of_ble_eq_true rfl) hcs (kI ?_)
        exact r_iret (pc := 40) dX6_copy_40 rfl (by subst hPP; exact (Or.inr ⟨a, b, hab, hbb, rfl, rfl, Or.inl ⟨g32, rfl, rfl⟩⟩))
      · obtain ⟨s, hs, es⟩ : ∃ s, s ≤ 40 ∧ M 2 a = nI s := (hz a hab).resolve_left h23
        refine r_aload_n (pc := 26) dX6_copy_26 rfl ?_
        refine gf_X6_13 (pc := 27) dX6_copy_27 rfl ?_
        refine r_iload_n (pc := 30) dX6_copy_30 rfl ?_
        refine r_iald (pc := 31) dX6_copy_31 rfl (show _ < 8 by omega) ?_
        refine r_if_ge (tgt := 41) (pc := 32) dX6_copy_32 (by decide) (fun h32 => ?_) (fun h32 => ?_)
        · obtain ⟨t, ht, et⟩ : ∃ s, s ≤ 40 ∧ M 2 b = nI s := (hz b hbb).resolve_left (fun z => absurd h32 (Int32.not_le.mpr z))
          refine r_aload_n (pc := 41) dX6_copy_41 rfl ?_
          refine gf_X6_7 (pc := 42) dX6_copy_42 rfl ?_
          refine r_iload_n (pc := 45) dX6_copy_45 rfl ?_
          refine r_iald (pc := 46) dX6_copy_46 rfl (show _ < 8 by omega) ?_
          refine r_aload_n (pc := 47) dX6_copy_47 rfl ?_
          refine gf_X6_7 (pc := 48) dX6_copy_48 rfl ?_
          refine r_iload_n (pc := 51) dX6_copy_51 rfl ?_
          refine r_iald (pc := 52) dX6_copy_52 rfl (show _ < 8 by omega) ?_
          refine r_icmp_eq (tgt := 62) (pc := 53) dX6_copy_53 (by decide) (fun h53 => ?_) (fun h53 => ?_)
          · refine r_iload (pc := 62) dX6_copy_62 rfl ?_
            refine r_if_lt (tgt := 108) (pc := 64) dX6_copy_64 (by decide) (fun h64 => ?_) (fun h64 => ?_)
            · have g64 : ¬ (∃ m p q, w = nI m ∧ i = nI p ∧ j = nI q ∧ p + m ≤ s ∧ q + m ≤ t) := by rintro ⟨m, p, q, rfl, -, -, h1, h2⟩; exact absurd h64 (nI_pos (by omega))
              refine r_aload_n (pc := 108) dX6_copy_108 rfl ?_
              refine r_iconst (v := nI 2) (pc := 109) dX6_copy_109 (by decide) ?_
              refine iv_X6_68 (c_X6_find _ _ _ _) (pc := 110) dX6_copy_110 rfl ⟨Nat.le_of_ble_eq_true rfl, Nat.le_of_ble_eq_true rfl⟩ (Nat.le_of_ble_eq_true rfl) hcs (kI ?_)
              exact r_iret (pc := 113) dX6_copy_113 rfl (by subst hPP; exact (Or.inr ⟨a, b, hab, hbb, rfl, rfl, Or.inr ⟨s, t, hs, ht, es, et, Or.inr ⟨h53, Or.inl ⟨g64, rfl, rfl⟩⟩⟩⟩))
            · obtain ⟨m, hm, rfl⟩ := nI_of h64
              refine r_iload_n (pc := 67) dX6_copy_67 rfl ?_
              refine r_i2l (pc := 68) dX6_copy_68 ?_
              refine r_lconst (v := (nI 0).toInt64) (pc := 69) dX6_copy_69 (by decide) ?_
              refine r_aload_n (pc := 70) dX6_copy_70 rfl ?_
              refine gf_X6_13 (pc := 71) dX6_copy_71 rfl ?_
              refine r_iload_n (pc := 74) dX6_copy_74 rfl ?_
              refine r_iald (pc := 75) dX6_copy_75 rfl (show _ < 8 by omega) ?_
              refine r_is (nI s) es ?_
              refine r_i2l (pc := 76) dX6_copy_76 ?_
              refine r_iload (pc := 77) dX6_copy_77 rfl ?_
              refine r_i2l (pc := 79) dX6_copy_79 ?_
              refine r_lsub (pc := 80) dX6_copy_80 ?_
              refine iv_X6_57 (c_X6_in _ _ _ _ _ _) (pc := 81) dX6_copy_81 ⟨Nat.le_of_ble_eq_true rfl, Nat.le_of_ble_eq_true rfl⟩ (Nat.le_of_ble_eq_true rfl) hcs (kI ?_)
              refine r_ifeq_b (tgt := 108) (pc := 84) dX6_copy_84 (by decide) (fun h84 => ?_) (fun h84 => ?_)
              · have g64 : ¬ (∃ m' p q, nI m = nI m' ∧ i = nI p ∧ j = nI q ∧ p + m' ≤ s ∧ q + m' ≤ t) := by rintro ⟨m2, p, q, e1, e2, -, h1, h2⟩; obtain rfl : m = m2 := (nI_eq (by omega) (by omega)).mp e1; exact h84 ((itL_iff hs hm).mpr ⟨p, e2, h1⟩)
                refine r_aload_n (pc := 108) dX6_copy_108 rfl ?_
                refine r_iconst (v := nI 2) (pc := 109) dX6_copy_109 (by decide) ?_
                refine iv_X6_68 (c_X6_find _ _ _ _) (pc := 110) dX6_copy_110 rfl ⟨Nat.le_of_ble_eq_true rfl, Nat.le_of_ble_eq_true rfl⟩ (Nat.le_of_ble_eq_true rfl) hcs (kI ?_)
                exact r_iret (pc := 113) dX6_copy_113 rfl (by subst hPP; exact (Or.inr ⟨a, b, hab, hbb, rfl, rfl, Or.inr ⟨s, t, hs, ht, es, et, Or.inr ⟨h53, Or.inl ⟨g64, rfl, rfl⟩⟩⟩⟩))
              · obtain ⟨p, hp, hps⟩ := (itL_iff hs hm).mp h84
                refine r_iload (pc := 87) dX6_copy_87 rfl ?_
                refine r_i2l (pc := 89) dX6_copy_89 ?_
                refine r_lconst (v := (nI 0).toInt64) (pc := 90) dX6_copy_90 (by decide) ?_
                refine r_aload_n (pc := 91) dX6_copy_91 rfl ?_
                refine gf_X6_13 (pc := 92) dX6_copy_92 rfl ?_
                refine r_iload_n (pc := 95) dX6_copy_95 rfl ?_
                refine r_iald (pc := 96) dX6_copy_96 rfl (show _ < 8 by omega) ?_
                refine r_is (nI t) et ?_
                refine r_i2l (pc := 97) dX6_copy_97 ?_
                refine r_iload (pc := 98) dX6_copy_98 rfl ?_
                refine r_i2l (pc := 100) dX6_copy_100 ?_
                refine r_lsub (pc := 101) dX6_copy_101 ?_
                refine iv_X6_57 (c_X6_in _ _ _ _ _ _) (pc := 102) dX6_copy_102 ⟨Nat.le_of_ble_eq_true rfl, Nat.le_of_ble_eq_true rfl⟩ (Nat.le_of_ble_eq_true rfl) hcs (kI ?_)
                refine r_ifne_b (tgt := 114) (pc := 105) dX6_copy_105 (by decide) (fun h105 => ?_) (fun h105 => ?_)
                · obtain ⟨q, hq, hqt⟩ := (itL_iff ht hm).mp h105
                  subst hp hq
                  refine r_iconst (v := nI 0) (pc := 114) dX6_copy_114 (by decide) ?_
                  refine r_st [_, _, _, _, _, _, _] (pc := 115) dX6_copy_115 (by decide) rfl rfl ?_
                  refine V.bk (loopV (fun (σ : Nat) => V κ cX6_copy RX6 7 (some .int) (rmx 2 45) (QM κ PP) (setA M 5 (pt (M 5) (fun k => M 3 (40 * a + p + k)) σ)) 117 [some (.ref (gA κ.G 0)), some (.int (nI a)), some (.int (nI p)), some (.int (nI b)), some (.int (nI q)), some (.int (nI m)), some (.int (nI σ))] []) (fun (σ : Nat) => σ ≤ m) (fun (σ : Nat) => m - σ) ?_ 0 (Nat.zero_le _)) (by rw [pt_0, setA_id]) (by (repeat (first | exact wk_0 | refine wk_n ?_ | refine wk_s rfl ?_)); done)
                  rintro e he ih
                  show V κ cX6_copy RX6 7 (some .int) (rmx 2 45) (QM κ PP) (setA M 5 (pt (M 5) (fun k => M 3 (40 * a + p + k)) e)) 117 [some (.ref (gA κ.G 0)), some (.int (nI a)), some (.int (nI p)), some (.int (nI b)), some (.int (nI q)), some (.int (nI m)), some (.int (nI e))] []
                  refine r_iload (pc := 117) dX6_copy_117 rfl ?_
                  refine r_iload (pc := 119) dX6_copy_119 rfl ?_
                  refine r_icmp_ge (tgt := 151) (pc := 121) dX6_copy_121 (by decide) (fun h121 => ?_) (fun h121 => ?_)
                  · have h121 : m ≤ e := (nI_leI (by omega) (by omega)).mp h121
                    obtain rfl : m = e := by omega
                    refine r_iconst (v := nI 0) (pc := 151) dX6_copy_151 (by decide) ?_
                    refine r_st [_, _, _, _, _, _, _] (pc := 152) dX6_copy_152 (by decide) rfl rfl ?_
                    refine V.bk (loopV (fun (σ : Nat) => V κ cX6_copy RX6 7 (some .int) (rmx 2 45) (QM κ PP) (setA (setA M 5 (pt (M 5) (fun k => M 3 (40 * a + p + k)) m)) 3 (fb_put (M 3) (pt (M 5) (fun k => M 3 (40 * a + p + k)) m) (40 * b + q) σ)) 154 [some (.ref (gA κ.G 0)), some (.int (nI a)), some (.int (nI p)), some (.int (nI b)), some (.int (nI q)), some (.int (nI m)), some (.int (nI σ))] []) (fun (σ : Nat) => σ ≤ m) (fun (σ : Nat) => m - σ) ?_ 0 (Nat.zero_le _)) (by rw [fb_put_0]; exact (setA_id' _ rfl).symm) (by (repeat (first | exact wk_0 | refine wk_n ?_ | refine wk_s rfl ?_)); done)
                    rintro e he ih
                    show V κ cX6_copy RX6 7 (some .int) (rmx 2 45) (QM κ PP) (setA (setA M 5 (pt (M 5) (fun k => M 3 (40 * a + p + k)) m)) 3 (fb_put (M 3) (pt (M 5) (fun k => M 3 (40 * a + p + k)) m) (40 * b + q) e)) 154 [some (.ref (gA κ.G 0)), some (.int (nI a)), some (.int (nI p)), some (.int (nI b)), some (.int (nI q)), some (.int (nI m)), some (.int (nI e))] []
                    refine r_iload (pc := 154) dX6_copy_154 rfl ?_
                    refine r_iload (pc := 156) dX6_copy_156 rfl ?_
                    refine r_icmp_ge (tgt := 189) (pc := 158) dX6_copy_158 (by decide) (fun h158 => ?_) (fun h158 => ?_)
                    · have h158 : m ≤ e := (nI_leI (by omega) (by omega)).mp h158
                      refine r_aload_n (pc := 189) dX6_copy_189 rfl ?_
                      refine r_iload (pc := 190) dX6_copy_190 rfl ?_
                      refine iv_X6_72 (c_X6_well _ _ _ _) (pc := 192) dX6_copy_192 rfl ⟨Nat.le_of_ble_eq_true rfl, Nat.le_of_ble_eq_true rfl⟩ (Nat.le_of_ble_eq_true rfl) hcs (kI ?_)
                      exact r_iret (pc := 195) dX6_copy_195 rfl (by subst hPP; exact (Or.inr ⟨a, b, hab, hbb, rfl, rfl, Or.inr ⟨s, t, hs, ht, es, et, Or.inr ⟨h53, Or.inr ⟨m, p, q, rfl, rfl, rfl, hps, hqt, rfl, by rw [show e = m by omega]; rfl⟩⟩⟩⟩))
                    · have h158 : e < m := Nat.not_le.mp (fun z => h158 ((nI_leI (by omega) (by omega)).mpr z))
                      refine r_aload_n (pc := 161) dX6_copy_161 rfl ?_
                      refine gf_X6_16 (pc := 162) dX6_copy_162 rfl ?_
                      refine r_bipush (v := nI 40) (pc := 165) dX6_copy_165 (by decide) ?_
                      refine r_iload_n (pc := 167) dX6_copy_167 rfl ?_
                      first | with_reducible refine r_imulN (pc := 168) dX6_copy_168 ?_ | refine r_imul (pc := 168) dX6_copy_168 ?_
                      refine r_iload (pc := 169) dX6_copy_169 rfl ?_
                      first | with_reducible refine r_iaddN (pc := 171) dX6_copy_171 ?_ | refine r_iadd (pc := 171) dX6_copy_171 ?_
                      refine r_iload (pc := 172) dX6_copy_172 rfl ?_
                      first | with_reducible refine r_iaddN (pc := 174) dX6_copy_174 ?_ | refine r_iadd (pc := 174) dX6_copy_174 ?_
                      refine r_aload_n (pc := 175) dX6_copy_175 rfl ?_
                      refine gf_X6_22 (pc := 176) dX6_copy_176 rfl ?_
                      refine r_iload (pc := 179) dX6_copy_179 rfl ?_
                      refine r_iald (pc := 181) dX6_copy_181 rfl (show _ < 40 by omega) ?_
                      refine r_iast (pc := 182) dX6_copy_182 rfl (show _ < 320 by omega) ?_
                      first | refine r_inc [_, _, _, _, _, _, _] (pc := 183) dX6_copy_183 rfl (nI_inc _) (by decide) rfl rfl ?_ | refine r_inc [_, _, _, _, _, _, _] (pc := 183) dX6_copy_183 rfl rfl (by decide) rfl rfl ?_
                      refine r_goto (tgt := 154) (pc := 186) dX6_copy_186 (by decide) ?_
                      exact V.bk (ih (e + 1) (by omega) (by omega)) (by rw [mset_setA]; exact congrArg _ (fb_put_succ _ (pt (M 5) (fun k => M 3 (40 * a + p + k)) m) _ _)) (by (repeat (first | exact wk_0 | refine wk_n ?_ | refine wk_s rfl ?_)); done)
                  · have h121 : e < m := Nat.not_le.mp (fun z => h121 ((nI_leI (by omega) (by omega)).mpr z))
                    refine r_aload_n (pc := 124) dX6_copy_124 rfl ?_
                    refine gf_X6_22 (pc := 125) dX6_copy_125 rfl ?_
                    refine r_iload (pc := 128) dX6_copy_128 rfl ?_
                    refine r_aload_n (pc := 130) dX6_copy_130 rfl ?_
                    refine gf_X6_16 (pc := 131) dX6_copy_131 rfl ?_
                    refine r_bipush (v := nI 40) (pc := 134) dX6_copy_134 (by decide) ?_
                    refine r_iload_n (pc := 136) dX6_copy_136 rfl ?_
                    first | with_reducible refine r_imulN (pc := 137) dX6_copy_137 ?_ | refine r_imul (pc := 137) dX6_copy_137 ?_
                    refine r_iload_n (pc := 138) dX6_copy_138 rfl ?_
                    first | with_reducible refine r_iaddN (pc := 139) dX6_copy_139 ?_ | refine r_iadd (pc := 139) dX6_copy_139 ?_
                    refine r_iload (pc := 140) dX6_copy_140 rfl ?_
                    first | with_reducible refine r_iaddN (pc := 142) dX6_copy_142 ?_ | refine r_iadd (pc := 142) dX6_copy_142 ?_
                    refine r_iald (pc := 143) dX6_copy_143 rfl (show _ < 320 by omega) ?_
                    refine r_iast (pc := 144) dX6_copy_144 rfl (show _ < 40 by omega) ?_
                    first | refine r_inc [_, _, _, _, _, _, _] (pc := 145) dX6_copy_145 rfl (nI_inc _) (by decide) rfl rfl ?_ | refine r_inc [_, _, _, _, _, _, _] (pc := 145) dX6_copy_145 rfl rfl (by decide) rfl rfl ?_
                    refine r_goto (tgt := 117) (pc := 148) dX6_copy_148 (by decide) ?_
                    exact V.bk (ih (e + 1) (by omega) (by omega)) (by rw [mset_setA]; exact congrArg _ (pt_s _ (fun k => M 3 (40 * a + p + k)) _)) (by (repeat (first | exact wk_0 | refine wk_n ?_ | refine wk_s rfl ?_)); done)
                · have g64 : ¬ (∃ m' p q, nI m = nI m' ∧ i = nI p ∧ j = nI q ∧ p + m' ≤ s ∧ q + m' ≤ t) := by rintro ⟨m2, p, q, e1, -, e2, h1, h2⟩; obtain rfl : m = m2 := (nI_eq (by omega) (by omega)).mp e1; exact h105 ((itL_iff ht hm).mpr ⟨q, e2, h2⟩)
                  refine r_aload_n (pc := 108) dX6_copy_108 rfl ?_
                  refine r_iconst (v := nI 2) (pc := 109) dX6_copy_109 (by decide) ?_
                  refine iv_X6_68 (c_X6_find _ _ _ _) (pc := 110) dX6_copy_110 rfl ⟨Nat.le_of_ble_eq_true rfl, Nat.le_of_ble_eq_true rfl⟩ (Nat.le_of_ble_eq_true rfl) hcs (kI ?_)
                  exact r_iret (pc := 113) dX6_copy_113 rfl (by subst hPP; exact (Or.inr ⟨a, b, hab, hbb, rfl, rfl, Or.inr ⟨s, t, hs, ht, es, et, Or.inr ⟨h53, Or.inl ⟨g64, rfl, rfl⟩⟩⟩⟩))
          · refine r_aload_n (pc := 56) dX6_copy_56 rfl ?_
            refine r_iconst (v := nI 5) (pc := 57) dX6_copy_57 (by decide) ?_
            refine iv_X6_68 (c_X6_find _ _ _ _) (pc := 58) dX6_copy_58 rfl ⟨Nat.le_of_ble_eq_true rfl, Nat.le_of_ble_eq_true rfl⟩ (Nat.le_of_ble_eq_true rfl) hcs (kI ?_)
            exact r_iret (pc := 61) dX6_copy_61 rfl (by subst hPP; exact (Or.inr ⟨a, b, hab, hbb, rfl, rfl, Or.inr ⟨s, t, hs, ht, es, et, Or.inl ⟨h53, rfl, rfl⟩⟩⟩))
        · have g32 : M 2 a < 0 ∨ M 2 b < 0 := Or.inr (Int32.not_le.mp h32)
          refine r_aload_n (pc := 35) dX6_copy_35 rfl ?_
          refine r_iconst (v := nI 1) (pc := 36) dX6_copy_36 (by decide) ?_
          refine iv_X6_68 (c_X6_find _ _ _ _) (pc := 37) dX6_copy_37 rfl ⟨Nat.le_of_ble_eq_true rfl, Nat.le_of_ble_eq_true rfl⟩ (Nat.le_of_ble_eq_true rfl) hcs (kI ?_)
          exact r_iret (pc := 40) dX6_copy_40 rfl (by subst hPP; exact (Or.inr ⟨a, b, hab, hbb, rfl, rfl, Or.inl ⟨g32, rfl, rfl⟩⟩))
    · have g11 : ¬ rgG 0 7 y := fun z => h11 (rg_mpr z (by omega))
      refine r_ldc (pc := 14) dX6_copy_14 lk_X6_67 ?_
      exact r_iret (pc := 16) dX6_copy_16 rfl (by subst hPP; exact (Or.inl ⟨by first | exact fun z => g4 z.1 | exact fun z => g11 z.2, rfl, rfl⟩))
