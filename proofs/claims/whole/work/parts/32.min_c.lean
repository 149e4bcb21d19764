set_option maxHeartbeats 4000000 in
set_option maxRecDepth 100000 in
theorem c_X2_reckonRanks_18 (l : Launch) (G : Gx) (M : Mem) (S : Nat → Int32) (n : Nat) (hm : ms 18 n S M) (hR : Rg n S) : Con l G yX2_reckonRanks cX2_reckonRanks 3 none 1 22 [.ref (gA G 18)] M (qV (fun N5 => fr3 18 M N5 ∧ rk 18 n S N5)) := by
  refine Con.ofV [some (.ref (gA G 18)), none, none] RX2 (by decide) rfl (Nat.le_of_ble_eq_true rfl) rfl ?_
  intro κ hl hG hk0 hn0
  subst hl hG
  have hcs : κ.k ≤ 0 ∧ κ.n ≤ 0 := ⟨Nat.le_of_eq hk0, Nat.le_of_eq hn0⟩
  have hn6 := hR.1
  refine r_iconst (v := nI 0) (pc := 0) dX2_reckonRanks_0 (by decide) ?_
  refine r_st_n [_, _, _] (pc := 1) dX2_reckonRanks_1 (by decide) rfl rfl ?_
  refine V.bk (loopV (fun (σ : Nat × Mem) => V κ cX2_reckonRanks RX2 3 none (rmx 1 22) (QM κ (qV (fun N5 => fr3 18 M N5 ∧ rk 18 n S N5))) (σ.2) 2 [some (.ref (gA κ.G 18)), some (.int (nI (σ.1))), none] []) (fun (σ : Nat × Mem) => (σ.1) ≤ n ∧ fr3 18 M (σ.2) ∧ ∀ c, c < (σ.1) → (σ.2) 25 c = highS S c ∧ (σ.2) 26 c = nI 0) (fun (σ : Nat × Mem) => n - (σ.1)) ?_ (0, M) ⟨Nat.zero_le _, fr3.refl _ _, fun c h => absurd h (Nat.not_lt_zero c)⟩) rfl (by (repeat (first | exact wk_0 | refine wk_n ?_ | refine wk_s rfl ?_)); done)
  rintro ⟨j, N⟩ hI0 ih
  dsimp only at hI0 ih
  obtain ⟨hj, hf, hi⟩ := hI0
  show V κ cX2_reckonRanks RX2 3 none (rmx 1 22) (QM κ (qV (fun N5 => fr3 18 M N5 ∧ rk 18 n S N5))) N 2 [some (.ref (gA κ.G 18)), some (.int (nI j)), none] []
  refine r_iload_n (pc := 2) dX2_reckonRanks_2 rfl ?_
  refine r_aload_n (pc := 3) dX2_reckonRanks_3 rfl ?_
  refine gf_X2_39 (pc := 4) dX2_reckonRanks_4 rfl ?_
  refine r_is (nI n) (by first | exact hm.1 | exact (hf.ms hm).1 | exact (hfK.ms hm).1) ?_
  refine r_icmp_ge (tgt := 34) (pc := 7) dX2_reckonRanks_7 (by decide) (fun h7 => ?_) (fun h7 => ?_)
  · have h7 : n ≤ j := (nI_leI (by omega) (by omega)).mp h7
    obtain rfl : n = j := by omega
    refine r_iconst (v := nI 0) (pc := 34) dX2_reckonRanks_34 (by decide) ?_
    refine r_st_n [_, _, _] (pc := 35) dX2_reckonRanks_35 (by decide) rfl rfl ?_
    refine V.bk (loopV (fun (σ : Nat × Mem) => V κ cX2_reckonRanks RX2 3 none (rmx 1 22) (QM κ (qV (fun N5 => fr3 18 M N5 ∧ rk 18 n S N5))) (σ.2) 36 [some (.ref (gA κ.G 18)), some (.int (nI (σ.1))), none] []) (fun (σ : Nat × Mem) => (σ.1) ≤ n ∧ fr3 18 M (σ.2) ∧ (∀ c, c < n → (σ.2) 25 c = highS S c) ∧ ∀ c, c < n → (σ.2) 26 c = nI (rkP S n (σ.1) ((σ.1) + 1) c)) (fun (σ : Nat × Mem) => n - (σ.1)) ?_ (0, N) ⟨Nat.zero_le _, hf, fun c hc => (hi c hc).1, fun c hc => by rw [rkP_0]; exact (hi c hc).2⟩) rfl (by (repeat (first | exact wk_0 | refine wk_n ?_ | refine wk_s rfl ?_)); done)
    rintro ⟨i, N⟩ hI0 ih2
    dsimp only at hI0 ih2
    obtain ⟨hi2, hf, h7, h8⟩ := hI0
    show V κ cX2_reckonRanks RX2 3 none (rmx 1 22) (QM κ (qV (fun N5 => fr3 18 M N5 ∧ rk 18 n S N5))) N 36 [some (.ref (gA κ.G 18)), some (.int (nI i)), none] []
    refine r_iload_n (pc := 36) dX2_reckonRanks_36 rfl ?_
    refine r_aload_n (pc := 37) dX2_reckonRanks_37 rfl ?_
    refine gf_X2_39 (pc := 38) dX2_reckonRanks_38 rfl ?_
    refine r_is (nI n) (by first | exact hm.1 | exact (hf.ms hm).1 | exact (hfK.ms hm).1) ?_
    refine r_icmp_ge (tgt := 106) (pc := 41) dX2_reckonRanks_41 (by decide) (fun h41 => ?_) (fun h41 => ?_)
    · have h41 : n ≤ i := (nI_leI (by omega) (by omega)).mp h41
      obtain rfl : n = i := by omega
      refine r_iconst (v := nI 0) (pc := 106) dX2_reckonRanks_106 (by decide) ?_
      refine r_st_n [_, _, _] (pc := 107) dX2_reckonRanks_107 (by decide) rfl rfl ?_
      refine V.bk (loopV (fun (σ : Nat × Mem) => V κ cX2_reckonRanks RX2 3 none (rmx 1 22) (QM κ (qV (fun N5 => fr3 18 M N5 ∧ rk 18 n S N5))) (σ.2) 108 [some (.ref (gA κ.G 18)), some (.int (nI (σ.1))), none] []) (fun (σ : Nat × Mem) => (σ.1) ≤ n ∧ fr3 18 M (σ.2) ∧ (∀ c, c < n → (σ.2) 26 c = nI (rankN S c n)) ∧ ∀ c, c < (σ.1) → (σ.2) 27 (rankN S c n) = nI c) (fun (σ : Nat × Mem) => n - (σ.1)) ?_ (0, N) ⟨Nat.zero_le _, hf, fun c hc => (h8 c hc).trans (by rw [rkP_e S _ hc]), fun c h => absurd h (Nat.not_lt_zero c)⟩) rfl (by (repeat (first | exact wk_0 | refine wk_n ?_ | refine wk_s rfl ?_)); done)
      rintro ⟨i, N⟩ hI0 ih4
      dsimp only at hI0 ih4
      obtain ⟨hi3, hf, h8, h9⟩ := hI0
      show V κ cX2_reckonRanks RX2 3 none (rmx 1 22) (QM κ (qV (fun N5 => fr3 18 M N5 ∧ rk 18 n S N5))) N 108 [some (.ref (gA κ.G 18)), some (.int (nI i)), none] []
      refine r_iload_n (pc := 108) dX2_reckonRanks_108 rfl ?_
      refine r_aload_n (pc := 109) dX2_reckonRanks_109 rfl ?_
      refine gf_X2_39 (pc := 110) dX2_reckonRanks_110 rfl ?_
      refine r_is (nI n) (by first | exact hm.1 | exact (hf.ms hm).1 | exact (hfK.ms hm).1) ?_
      refine r_icmp_ge (tgt := 134) (pc := 113) dX2_reckonRanks_113 (by decide) (fun h113 => ?_) (fun h113 => ?_)
      · have h113 : n ≤ i := (nI_leI (by omega) (by omega)).mp h113
        obtain rfl : n = i := by omega
        exact r_vret (pc := 134) dX2_reckonRanks_134 rfl ⟨rfl, hf, fun c hc => ⟨h8 c hc, h9 c hc⟩⟩
      · have h113 : i < n := Nat.not_le.mp (fun z => h113 ((nI_leI (by omega) (by omega)).mpr z))
        refine r_aload_n (pc := 116) dX2_reckonRanks_116 rfl ?_
        refine gf_X2_36 (pc := 117) dX2_reckonRanks_117 rfl ?_
        refine r_aload_n (pc := 120) dX2_reckonRanks_120 rfl ?_
        refine gf_X2_33 (pc := 121) dX2_reckonRanks_121 rfl ?_
        refine r_iload_n (pc := 124) dX2_reckonRanks_124 rfl ?_
        refine r_iald (pc := 125) dX2_reckonRanks_125 rfl (show _ < 6 by omega) ?_
        refine r_is (nI (rankN S i n)) (h8 i (by omega)) ?_
        have hrl := rank_lt S (show i < n by omega)
        refine r_iload_n (pc := 126) dX2_reckonRanks_126 rfl ?_
        refine r_iast (pc := 127) dX2_reckonRanks_127 rfl (show _ < 6 by omega) ?_
        first | refine r_inc [_, _, _] (pc := 128) dX2_reckonRanks_128 rfl (nI_inc _) (by decide) rfl rfl ?_ | refine r_inc [_, _, _] (pc := 128) dX2_reckonRanks_128 rfl rfl (by decide) rfl rfl ?_
        refine r_goto (tgt := 108) (pc := 131) dX2_reckonRanks_131 (by decide) ?_
        exact V.bk (ih4 (i + 1, mset N 27 (rankN S i n) (nI i)) ⟨by dsimp only; omega, hf.put _ _ _ (by omega), h8, or_s (o := 18) (by omega) h9⟩ (by dsimp only; omega)) rfl (by (repeat (first | exact wk_0 | refine wk_n ?_ | refine wk_s rfl ?_)); done)
    · have h41 : i < n := Nat.not_le.mp (fun z => h41 ((nI_leI (by omega) (by omega)).mpr z))
      refine r_iload_n (pc := 44) dX2_reckonRanks_44 rfl ?_
      refine r_iconst (v := nI 1) (pc := 45) dX2_reckonRanks_45 (by decide) ?_
      first | with_reducible refine r_iaddN (pc := 46) dX2_reckonRanks_46 ?_ | refine r_iadd (pc := 46) dX2_reckonRanks_46 ?_
      refine r_st_n [_, _, _] (pc := 47) dX2_reckonRanks_47 (by decide) rfl rfl ?_
      refine V.bk (loopV (fun (σ : Nat × Mem) => V κ cX2_reckonRanks RX2 3 none (rmx 1 22) (QM κ (qV (fun N5 => fr3 18 M N5 ∧ rk 18 n S N5))) (σ.2) 48 [some (.ref (gA κ.G 18)), some (.int (nI i)), some (.int (nI (σ.1)))] []) (fun (σ : Nat × Mem) => i < (σ.1) ∧ (σ.1) ≤ n ∧ fr3 18 M (σ.2) ∧ (∀ c, c < n → (σ.2) 25 c = highS S c) ∧ ∀ c, c < n → (σ.2) 26 c = nI (rkP S n i (σ.1) c)) (fun (σ : Nat × Mem) => n - (σ.1)) ?_ (i + 1, N) ⟨Nat.lt_succ_self _, h41, hf, h7, h8⟩) rfl (by (repeat (first | exact wk_0 | refine wk_n ?_ | refine wk_s rfl ?_)); done)
      rintro ⟨j, K⟩ hI0 ih3
      dsimp only at hI0 ih3
      obtain ⟨hij, hjn, hfK, k7, k8⟩ := hI0
      show V κ cX2_reckonRanks RX2 3 none (rmx 1 22) (QM κ (qV (fun N5 => fr3 18 M N5 ∧ rk 18 n S N5))) K 48 [some (.ref (gA κ.G 18)), some (.int (nI i)), some (.int (nI j))] []
      refine r_iload_n (pc := 48) dX2_reckonRanks_48 rfl ?_
      refine r_aload_n (pc := 49) dX2_reckonRanks_49 rfl ?_
      refine gf_X2_39 (pc := 50) dX2_reckonRanks_50 rfl ?_
      refine r_is (nI n) (by first | exact hm.1 | exact (hf.ms hm).1 | exact (hfK.ms hm).1) ?_
      refine r_icmp_ge (tgt := 100) (pc := 53) dX2_reckonRanks_53 (by decide) (fun h53 => ?_) (fun h53 => ?_)
      · have h53 : n ≤ j := (nI_leI (by omega) (by omega)).mp h53
        obtain rfl : n = j := by omega
        first | refine r_inc [_, _, _] (pc := 100) dX2_reckonRanks_100 rfl (nI_inc _) (by decide) rfl rfl ?_ | refine r_inc [_, _, _] (pc := 100) dX2_reckonRanks_100 rfl rfl (by decide) rfl rfl ?_
        refine r_goto (tgt := 36) (pc := 103) dX2_reckonRanks_103 (by decide) ?_
        exact V.bk (ih2 (i + 1, K) ⟨by dsimp only; omega, hfK, k7, fun c hc => by rw [rkP_i S hc]; exact k8 c hc⟩ (by dsimp only; omega)) rfl (by (repeat (first | exact wk_0 | refine wk_n ?_ | refine wk_s rfl ?_)); done)
      · have h53 : j < n := Nat.not_le.mp (fun z => h53 ((nI_leI (by omega) (by omega)).mpr z))
        refine r_aload_n (pc := 56) dX2_reckonRanks_56 rfl ?_
        refine gf_X2_30 (pc := 57) dX2_reckonRanks_57 rfl ?_
        refine r_iload_n (pc := 60) dX2_reckonRanks_60 rfl ?_
        refine r_iald (pc := 61) dX2_reckonRanks_61 rfl (show _ < 6 by omega) ?_
        refine r_is (highS S j) (k7 j (by omega)) ?_
        refine r_aload_n (pc := 62) dX2_reckonRanks_62 rfl ?_
        refine gf_X2_30 (pc := 63) dX2_reckonRanks_63 rfl ?_
        refine r_iload_n (pc := 66) dX2_reckonRanks_66 rfl ?_
        refine r_iald (pc := 67) dX2_reckonRanks_67 rfl (show _ < 6 by omega) ?_
        refine r_is (highS S i) (k7 i (by omega)) ?_
        refine r_icmp_le (tgt := 84) (pc := 68) dX2_reckonRanks_68 (by decide) (fun h68 => ?_) (fun h68 => ?_)
        · have hab : ¬ abv S j i = true := fun z => absurd ((abv_lt hij).mp z) (fun y => (fa_of_lt y).2.1 h68)
          refine r_aload_n (pc := 84) dX2_reckonRanks_84 rfl ?_
          refine gf_X2_33 (pc := 85) dX2_reckonRanks_85 rfl ?_
          refine r_iload_n (pc := 88) dX2_reckonRanks_88 rfl ?_
          refine r_dup2 (pc := 89) dX2_reckonRanks_89 rfl rfl ?_
          refine r_iald (pc := 90) dX2_reckonRanks_90 rfl (show _ < 6 by omega) ?_
          refine r_is (nI (rkP S n i j j)) (k8 j (by omega)) ?_
          refine r_iconst (v := nI 1) (pc := 91) dX2_reckonRanks_91 (by decide) ?_
          first | with_reducible refine r_iaddN (pc := 92) dX2_reckonRanks_92 ?_ | refine r_iadd (pc := 92) dX2_reckonRanks_92 ?_
          refine r_iast (pc := 93) dX2_reckonRanks_93 rfl (show _ < 6 by omega) ?_
          first | refine r_inc [_, _, _] (pc := 94) dX2_reckonRanks_94 rfl (nI_inc _) (by decide) rfl rfl ?_ | refine r_inc [_, _, _] (pc := 94) dX2_reckonRanks_94 rfl rfl (by decide) rfl rfl ?_
          refine r_goto (tgt := 48) (pc := 97) dX2_reckonRanks_97 (by decide) ?_
          first
            | exact V.bk (ih3 (j + 1, mset K 26 i (nI (rkP S n i j i + 1))) ⟨by dsimp only; omega, by dsimp only; omega, hfK.put _ _ _ (by omega), k7, rk_s1 (o := 18) k8 hij hab⟩ (by dsimp only; omega)) rfl (by (repeat (first | exact wk_0 | refine wk_n ?_ | refine wk_s rfl ?_)); done)
            | exact V.bk (ih3 (j + 1, mset K 26 j (nI (rkP S n i j j + 1))) ⟨by dsimp only; omega, by dsimp only; omega, hfK.put _ _ _ (by omega), k7, rk_s2 (o := 18) k8 hij hab⟩ (by dsimp only; omega)) rfl (by (repeat (first | exact wk_0 | refine wk_n ?_ | refine wk_s rfl ?_)); done)
        · have hab : abv S j i = true := (abv_lt hij).mpr (fa_of_nle h68)
          refine r_aload_n (pc := 71) dX2_reckonRanks_71 rfl ?_
          refine gf_X2_33 (pc := 72) dX2_reckonRanks_72 rfl ?_
          refine r_iload_n (pc := 75) dX2_reckonRanks_75 rfl ?_
          refine r_dup2 (pc := 76) dX2_reckonRanks_76 rfl rfl ?_
          refine r_iald (pc := 77) dX2_reckonRanks_77 rfl (show _ < 6 by omega) ?_
          refine r_is (nI (rkP S n i j i)) (k8 i (by omega)) ?_
          refine r_iconst (v := nI 1) (pc := 78) dX2_reckonRanks_78 (by decide) ?_
          first | with_reducible refine r_iaddN (pc := 79) dX2_reckonRanks_79 ?_ | refine r_iadd (pc := 79) dX2_reckonRanks_79 ?_
          refine r_iast (pc := 80) dX2_reckonRanks_80 rfl (show _ < 6 by omega) ?_
          refine r_goto (tgt := 94) (pc := 81) dX2_reckonRanks_81 (by decide) ?_
          first | refine r_inc [_, _, _] (pc := 94) dX2_reckonRanks_94 rfl (nI_inc _) (by decide) rfl rfl ?_ | refine r_inc [_, _, _] (pc := 94) dX2_reckonRanks_94 rfl rfl (by decide) rfl rfl ?_
          refine r_goto (tgt := 48) (pc := 97) dX2_reckonRanks_97 (by decide) ?_
          first
            | exact V.bk (ih3 (j + 1, mset K 26 i (nI (rkP S n i j i + 1))) ⟨by dsimp only; omega, by dsimp only; omega, hfK.put _ _ _ (by omega), k7, rk_s1 (o := 18) k8 hij hab⟩ (by dsimp only; omega)) rfl (by (repeat (first | exact wk_0 | refine wk_n ?_ | refine wk_s rfl ?_)); done)
            | exact V.bk (ih3 (j + 1, mset K 26 j (nI (rkP S n i j j + 1))) ⟨by dsimp only; omega, by dsimp only; omega, hfK.put _ _ _ (by omega), k7, rk_s2 (o := 18) k8 hij hab⟩ (by dsimp only; omega)) rfl (by (repeat (first | exact wk_0 | refine wk_n ?_ | refine wk_s rfl ?_)); done)
  · have h7 : j < n := Nat.not_le.mp (fun z => h7 ((nI_leI (by omega) (by omega)).mpr z))
    refine r_aload_n (pc := 10) dX2_reckonRanks_10 rfl ?_
    refine gf_X2_30 (pc := 11) dX2_reckonRanks_11 rfl ?_
    refine r_iload_n (pc := 14) dX2_reckonRanks_14 rfl ?_
    refine r_aload_n (pc := 15) dX2_reckonRanks_15 rfl ?_
    refine r_iload_n (pc := 16) dX2_reckonRanks_16 rfl ?_
    refine iv_X2_61 (c_X2_highOf_18 _ _ _ j S n (hf.ms hm) hR (by omega)) (pc := 17) dX2_reckonRanks_17 rfl ⟨Nat.le_of_ble_eq_true rfl, Nat.le_of_ble_eq_true rfl⟩ (Nat.le_of_ble_eq_true rfl) hcs (kI ?_)
    refine r_iast (pc := 20) dX2_reckonRanks_20 rfl (show _ < 6 by omega) ?_
    refine r_aload_n (pc := 21) dX2_reckonRanks_21 rfl ?_
    refine gf_X2_33 (pc := 22) dX2_reckonRanks_22 rfl ?_
    refine r_iload_n (pc := 25) dX2_reckonRanks_25 rfl ?_
    refine r_iconst (v := nI 0) (pc := 26) dX2_reckonRanks_26 (by decide) ?_
    refine r_iast (pc := 27) dX2_reckonRanks_27 rfl (show _ < 6 by omega) ?_
    first | refine r_inc [_, _, _] (pc := 28) dX2_reckonRanks_28 rfl (nI_inc _) (by decide) rfl rfl ?_ | refine r_inc [_, _, _] (pc := 28) dX2_reckonRanks_28 rfl rfl (by decide) rfl rfl ?_
    refine r_goto (tgt := 2) (pc := 31) dX2_reckonRanks_31 (by decide) ?_
    exact V.bk (ih (j + 1, mset (mset N 25 j (highS S j)) 26 j (nI 0)) ⟨by dsimp only; omega, (hf.put _ _ _ (by omega)).put _ _ _ (by omega), hi_s (o := 18) hi⟩ (by dsimp only; omega)) rfl (by (repeat (first | exact wk_0 | refine wk_n ?_ | refine wk_s rfl ?_)); done)
set_option maxHeartbeats 4000000 in
set_option maxRecDepth 100000 in
theorem c_X2_rankOf_18 (l : Launch) (G : Gx) (M : Mem) (c : Nat) (S : Nat → Int32) (n : Nat) (hm : ms 18 n S M) (hR : Rg n S) (hc : c < n) : Con l G yX2_rankOf cX2_rankOf 2 (some .int) 2 44 [.ref (gA G 18), .int (nI c)] M (qI (nI (rankN S c n)) (fr3 18 M)) := by
  refine Con.ofV [some (.ref (gA G 18)), some (.int (nI c))] RX2 (by decide) rfl (Nat.le_of_ble_eq_true rfl) rfl ?_
  intro κ hl hG hk0 hn0
  subst hl hG
  have hcs : κ.k ≤ 0 ∧ κ.n ≤ 0 := ⟨Nat.le_of_eq hk0, Nat.le_of_eq hn0⟩
  have hn6 := hR.1
  refine r_aload_n (pc := 0) dX2_rankOf_0 rfl ?_
  refine iv_X2_65 (c_X2_reckonRanks_18 _ _ _ _ _ (by assumption) (by assumption)) (pc := 1) dX2_rankOf_1 rfl ⟨Nat.le_of_ble_eq_true rfl, Nat.le_of_ble_eq_true rfl⟩ (Nat.le_of_ble_eq_true rfl) hcs (kqV (fun N1 r1 => ?_))
  refine r_aload_n (pc := 4) dX2_rankOf_4 rfl ?_
  refine gf_X2_33 (pc := 5) dX2_rankOf_5 rfl ?_
  refine r_iload_n (pc := 8) dX2_rankOf_8 rfl ?_
  refine r_iald (pc := 9) dX2_rankOf_9 rfl (show _ < 6 by omega) ?_
  refine r_is (nI (rankN S c n)) (r1.2 c hc).1 ?_
  exact r_iret (pc := 10) dX2_rankOf_10 rfl ⟨rfl, r1.1⟩
set_option maxHeartbeats 4000000 in
set_option maxRecDepth 100000 in
theorem c_X2_atRank_18 (l : Launch) (G : Gx) (M : Mem) (r : Nat) (S : Nat → Int32) (n : Nat) (hm : ms 18 n S M) (hR : Rg n S) (hr : r < n) : Con l G yX2_atRank cX2_atRank 2 (some .int) 2 44 [.ref (gA G 18), .int (nI r)] M (qI (atN S n (nI r) n) (fr3 18 M)) := by
  refine Con.ofV [some (.ref (gA G 18)), some (.int (nI r))] RX2 (by decide) rfl (Nat.le_of_ble_eq_true rfl) rfl ?_
  intro κ hl hG hk0 hn0
  subst hl hG
  have hcs : κ.k ≤ 0 ∧ κ.n ≤ 0 := ⟨Nat.le_of_eq hk0, Nat.le_of_eq hn0⟩
  have hn6 := hR.1
  obtain ⟨d, hd, ed⟩ := rank_all S hr
  refine r_aload_n (pc := 0) dX2_atRank_0 rfl ?_
  refine iv_X2_65 (c_X2_reckonRanks_18 _ _ _ _ _ (by assumption) (by assumption)) (pc := 1) dX2_atRank_1 rfl ⟨Nat.le_of_ble_eq_true rfl, Nat.le_of_ble_eq_true rfl⟩ (Nat.le_of_ble_eq_true rfl) hcs (kqV (fun N1 r1 => ?_))
  refine r_aload_n (pc := 4) dX2_atRank_4 rfl ?_
  refine gf_X2_36 (pc := 5) dX2_atRank_5 rfl ?_
  refine r_iload_n (pc := 8) dX2_atRank_8 rfl ?_
  refine r_iald (pc := 9) dX2_atRank_9 rfl (show _ < 6 by omega) ?_
  refine r_is (atN S n (nI r) n) (by have h := (r1.2 d hd).2; rw [ed] at h; rw [← ed, atN_r S hd hn6, ed]; exact h) ?_
  exact r_iret (pc := 10) dX2_atRank_10 rfl ⟨rfl, r1.1⟩
set_option maxHeartbeats 4000000 in
set_option maxRecDepth 100000 in
theorem c_X2_preyByRanks_18 (l : Launch) (G : Gx) (M : Mem) (c : Nat) (S : Nat → Int32) (n : Nat) (hR : Rg n S) (hc : c < n) (hsz : M 18 0 = nI n) (e4 : M 22 c = S (17 + c)) (e5 : M 23 c = S (23 + c)) (hrk : rk 18 n S M) : Con l G yX2_preyByRanks cX2_preyByRanks 3 (some .int) 0 0 [.ref (gA G 18), .int (nI c)] M (rI (tgtS S n c) M) := by
  refine Con.ofV [some (.ref (gA G 18)), some (.int (nI c)), none] RX2 (by decide) rfl (Nat.le_of_ble_eq_true rfl) rfl ?_
  intro κ hl hG hk0 hn0
  subst hl hG
  have hcs : κ.k ≤ 0 ∧ κ.n ≤ 0 := ⟨Nat.le_of_eq hk0, Nat.le_of_eq hn0⟩
  have hn6 := hR.1
  obtain ⟨s1, s2⟩ := (hR.c hc).sw
  have hrl := rank_lt S hc
  refine r_aload_n (pc := 0) dX2_preyByRanks_0 rfl ?_
  refine gf_X2_21 (pc := 1) dX2_preyByRanks_1 rfl ?_
  refine r_iload_n (pc := 4) dX2_preyByRanks_4 rfl ?_
  refine r_iald (pc := 5) dX2_preyByRanks_5 rfl (show _ < 6 by omega) ?_
  refine r_is (nI (swS S c)) (e4.trans s1) ?_
  refine r_iconst (v := nI 1) (pc := 6) dX2_preyByRanks_6 (by decide) ?_
  refine r_icmp_ge (tgt := 13) (pc := 7) dX2_preyByRanks_7 (by decide) (fun h7 => ?_) (fun h7 => ?_)
  · have z7 : ¬ S (17 + c) = 0 := fun z => by have := (nI_leI (by omega) (by omega)).mp h7; rw [s1] at z; have := (nI_eq (b := 0) (by omega) (by omega)).mp z; omega
    refine r_aload_n (pc := 13) dX2_preyByRanks_13 rfl ?_
    refine gf_X2_33 (pc := 14) dX2_preyByRanks_14 rfl ?_
    refine r_iload_n (pc := 17) dX2_preyByRanks_17 rfl ?_
    refine r_iald (pc := 18) dX2_preyByRanks_18 rfl (show _ < 6 by omega) ?_
    refine r_is (nI (rankN S c n)) (hrk c hc).1 ?_
    refine t_if_ne (tgt := 26) (J := 27) (a := ?pA19x1) (b := ?pB19x1) (pc := 19) dX2_preyByRanks_19 (by decide) (fun k19x1 => ?pT19x1) (fun k19x1 => ?pF19x1) ?pK19x1
    case pT19x1 =>
      refine r_iconst (v := nI 0) (pc := 26) dX2_preyByRanks_26 (by decide) ?_
      exact k19x1
    case pF19x1 =>
      refine r_iconst (v := nI 1) (pc := 22) dX2_preyByRanks_22 (by decide) ?_
      refine r_goto (tgt := 27) (pc := 23) dX2_preyByRanks_23 (by decide) ?_
      exact k19x1
    case pK19x1 =>
      refine r_st_n [_, _, _] (pc := 27) dX2_preyByRanks_27 (by decide) rfl rfl ?_
      refine r_aload_n (pc := 28) dX2_preyByRanks_28 rfl ?_
      refine gf_X2_24 (pc := 29) dX2_preyByRanks_29 rfl ?_
      refine r_iload_n (pc := 32) dX2_preyByRanks_32 rfl ?_
      refine r_iald (pc := 33) dX2_preyByRanks_33 rfl (show _ < 6 by omega) ?_
      refine r_is (S (23 + c)) e5 ?_
      refine r_tsw (lo := 1) (hi := 3) (tgt := 130) (pc := 34) dX2_preyByRanks_34 (by decide) (fun h34 => ?_) (fun q34 a34 b34 h34 => ?_)
      · refine r_ldc (pc := 130) dX2_preyByRanks_130 lk_X2_81 ?_
        refine r_is (tgtS S n c) (who_0 h34) ?_
        exact r_iret (pc := 132) dX2_preyByRanks_132 rfl ⟨rfl, rfl⟩
      · rcases (show q34 = 1 ∨ q34 = 2 ∨ q34 = 3 by omega) with rfl | rfl | rfl
        · refine r_tableIn (off := 26) (tgt := 60) (pc := 34) dX2_preyByRanks_34 (by decide) (by decide) rfl (by decide) ?_
          refine r_iload_n (pc := 60) dX2_preyByRanks_60 rfl ?_
          refine r_if_eq (tgt := 69) (pc := 61) dX2_preyByRanks_61 (by decide) (fun h61 => ?_) (fun h61 => ?_)
          · have hr0 : rankN S c n ≠ 0 := fun z => absurd h61 (by rw [if_pos (by rw [z]; rfl)]; decide)
            refine r_aload_n (pc := 69) dX2_preyByRanks_69 rfl ?_
            refine gf_X2_36 (pc := 70) dX2_preyByRanks_70 rfl ?_
            refine r_aload_n (pc := 73) dX2_preyByRanks_73 rfl ?_
            refine gf_X2_33 (pc := 74) dX2_preyByRanks_74 rfl ?_
            refine r_iload_n (pc := 77) dX2_preyByRanks_77 rfl ?_
            refine r_iald (pc := 78) dX2_preyByRanks_78 rfl (show _ < 6 by omega) ?_
            refine r_is (nI (rankN S c n)) (hrk c hc).1 ?_
            refine r_iconst (v := nI 1) (pc := 79) dX2_preyByRanks_79 (by decide) ?_
            first | (with_reducible refine r_isubN (pc := 80) dX2_preyByRanks_80 ?hle ?_; case hle => omega) | refine r_isub (pc := 80) dX2_preyByRanks_80 ?_
            refine r_iald (pc := 81) dX2_preyByRanks_81 rfl (show _ < 6 by omega) ?_
            exact r_iret (pc := 82) dX2_preyByRanks_82 rfl (by first | exact ⟨congrArg (fun z => some (Value.int z)) (prey_1n hn6 h34 hr0), rfl⟩ | exact ⟨congrArg (fun z => some (Value.int z)) (prey_1 (o := 18) hn6 hrk hc z7 h34 rfl hr0), rfl⟩)
          · have hr0 : rankN S c n = 0 := Classical.byContradiction (fun z => h61 (by rw [if_neg (show ¬ nI (rankN S c n) = 0 from fun y => z ((nI_eq (b := 0) (by omega) (by omega)).mp y))]; rfl))
            refine r_ldc (pc := 64) dX2_preyByRanks_64 lk_X2_81 ?_
            refine r_goto (tgt := 82) (pc := 66) dX2_preyByRanks_66 (by decide) ?_
            exact r_iret (pc := 82) dX2_preyByRanks_82 rfl (by first | exact ⟨congrArg (fun z => some (Value.int z)) (prey_1n hn6 h34 hr0), rfl⟩ | exact ⟨congrArg (fun z => some (Value.int z)) (prey_1 (o := 18) hn6 hrk hc z7 h34 rfl hr0), rfl⟩)
        · refine r_tableIn (off := 49) (tgt := 83) (pc := 34) dX2_preyByRanks_34 (by decide) (by decide) rfl (by decide) ?_
          refine r_iload_n (pc := 83) dX2_preyByRanks_83 rfl ?_
          refine r_if_eq (tgt := 92) (pc := 84) dX2_preyByRanks_84 (by decide) (fun h84 => ?_) (fun h84 => ?_)
          · have hr0 : rankN S c n ≠ 0 := fun z => absurd h84 (by rw [if_pos (by rw [z]; rfl)]; decide)
            refine r_aload_n (pc := 92) dX2_preyByRanks_92 rfl ?_
            refine gf_X2_36 (pc := 93) dX2_preyByRanks_93 rfl ?_
            refine r_iconst (v := nI 0) (pc := 96) dX2_preyByRanks_96 (by decide) ?_
            refine r_iald (pc := 97) dX2_preyByRanks_97 rfl (show _ < 6 by omega) ?_
            exact r_iret (pc := 98) dX2_preyByRanks_98 rfl (by first | exact ⟨congrArg (fun z => some (Value.int z)) (prey_2n hn6 hc h34 hr0), rfl⟩ | exact ⟨congrArg (fun z => some (Value.int z)) (prey_2 (o := 18) hn6 hrk hc z7 h34 hr0), rfl⟩)
          · have hr0 : rankN S c n = 0 := Classical.byContradiction (fun z => h84 (by rw [if_neg (show ¬ nI (rankN S c n) = 0 from fun y => z ((nI_eq (b := 0) (by omega) (by omega)).mp y))]; rfl))
            refine r_ldc (pc := 87) dX2_preyByRanks_87 lk_X2_81 ?_
            refine r_goto (tgt := 98) (pc := 89) dX2_preyByRanks_89 (by decide) ?_
            exact r_iret (pc := 98) dX2_preyByRanks_98 rfl (by first | exact ⟨congrArg (fun z => some (Value.int z)) (prey_2n hn6 hc h34 hr0), rfl⟩ | exact ⟨congrArg (fun z => some (Value.int z)) (prey_2 (o := 18) hn6 hrk hc z7 h34 hr0), rfl⟩)
        · refine r_tableIn (off := 65) (tgt := 99) (pc := 34) dX2_preyByRanks_34 (by decide) (by decide) rfl (by decide) ?_
          refine r_aload_n (pc := 99) dX2_preyByRanks_99 rfl ?_
          refine gf_X2_39 (pc := 100) dX2_preyByRanks_100 rfl ?_
          refine r_is (nI n) (hsz) ?_
          refine r_iconst (v := nI 2) (pc := 103) dX2_preyByRanks_103 (by decide) ?_
          refine r_icmp_ge (tgt := 112) (pc := 104) dX2_preyByRanks_104 (by decide) (fun h104 => ?_) (fun h104 => ?_)
          · have hn2 : 2 ≤ n := (nI_leI (by omega) (by omega)).mp h104
            refine r_iload_n (pc := 112) dX2_preyByRanks_112 rfl ?_
            refine r_iconst (v := nI 1) (pc := 113) dX2_preyByRanks_113 (by decide) ?_
            first | with_reducible refine r_iaddN (pc := 114) dX2_preyByRanks_114 ?_ | refine r_iadd (pc := 114) dX2_preyByRanks_114 ?_
            refine r_aload_n (pc := 115) dX2_preyByRanks_115 rfl ?_
            refine gf_X2_39 (pc := 116) dX2_preyByRanks_116 rfl ?_
            refine r_is (nI n) (hsz) ?_
            refine r_icmp_ge (tgt := 128) (pc := 119) dX2_preyByRanks_119 (by decide) (fun h119 => ?_) (fun h119 => ?_)
            · have hc1 : c + 1 = n := by have := (nI_leI (by omega) (by omega)).mp h119; omega
              have ht : nI 0 = tgtS S n c := (tgt_w z7 (by rw [who_3 h34, hc1, Nat.mod_self]) (fun z => by have := (nI_eq (by omega) (by omega)).mp z; omega)).symm
              refine r_iconst (v := nI 0) (pc := 128) dX2_preyByRanks_128 (by decide) ?_
              exact r_iret (pc := 129) dX2_preyByRanks_129 rfl ⟨congrArg (fun z => some (Value.int z)) ht, rfl⟩
            · have hc1 : c + 1 < n := Nat.not_le.mp (fun z => h119 (nI_le z (by omega)))
              have ht : nI (c + 1) = tgtS S n c := (tgt_w z7 (by rw [who_3 h34, Nat.mod_eq_of_lt hc1]) (fun z => by have := (nI_eq (by omega) (by omega)).mp z; omega)).symm
              refine r_iload_n (pc := 122) dX2_preyByRanks_122 rfl ?_
              refine r_iconst (v := nI 1) (pc := 123) dX2_preyByRanks_123 (by decide) ?_
              first | with_reducible refine r_iaddN (pc := 124) dX2_preyByRanks_124 ?_ | refine r_iadd (pc := 124) dX2_preyByRanks_124 ?_
              refine r_goto (tgt := 129) (pc := 125) dX2_preyByRanks_125 (by decide) ?_
              exact r_iret (pc := 129) dX2_preyByRanks_129 rfl ⟨congrArg (fun z => some (Value.int z)) ht, rfl⟩
          · have hn1 : n = 1 := Classical.byContradiction (fun z => h104 (nI_le (by omega) (by omega)))
            have ht : cNone = tgtS S n c := (tgt_n (Or.inr (by rw [who_3 h34, hn1, show c = 0 by omega]))).symm
            refine r_ldc (pc := 107) dX2_preyByRanks_107 lk_X2_81 ?_
            refine r_goto (tgt := 129) (pc := 109) dX2_preyByRanks_109 (by decide) ?_
            exact r_iret (pc := 129) dX2_preyByRanks_129 rfl ⟨congrArg (fun z => some (Value.int z)) ht, rfl⟩
  · have z7 : swS S c = 0 := Classical.byContradiction (fun z => h7 (nI_le (by omega) (by omega)))
    refine r_ldc (pc := 10) dX2_preyByRanks_10 lk_X2_81 ?_
    refine r_is (tgtS S n c) (tgt_0 (by rw [s1, z7]; rfl)).symm ?_
    exact r_iret (pc := 12) dX2_preyByRanks_12 rfl ⟨rfl, rfl⟩
set_option maxHeartbeats 4000000 in
set_option maxRecDepth 100000 in
theorem c_X2_preyOf_18 (l : Launch) (G : Gx) (M : Mem) (c : Nat) (S : Nat → Int32) (n : Nat) (hm : ms 18 n S M) (hR : Rg n S) (hc : c < n) : Con l G yX2_preyOf cX2_preyOf 2 (some .int) 2 44 [.ref (gA G 18), .int (nI c)] M (qI (tgtS S n c) (fr3 18 M)) := by
  refine Con.ofV [some (.ref (gA G 18)), some (.int (nI c))] RX2 (by decide) rfl (Nat.le_of_ble_eq_true rfl) rfl ?_
  intro κ hl hG hk0 hn0
  subst hl hG
  have hcs : κ.k ≤ 0 ∧ κ.n ≤ 0 := ⟨Nat.le_of_eq hk0, Nat.le_of_eq hn0⟩
  have hn6 := hR.1
  refine r_aload_n (pc := 0) dX2_preyOf_0 rfl ?_
  refine iv_X2_65 (c_X2_reckonRanks_18 _ _ _ _ _ (by assumption) (by assumption)) (pc := 1) dX2_preyOf_1 rfl ⟨Nat.le_of_ble_eq_true rfl, Nat.le_of_ble_eq_true rfl⟩ (Nat.le_of_ble_eq_true rfl) hcs (kqV (fun N1 r1 => ?_))
  refine r_aload_n (pc := 4) dX2_preyOf_4 rfl ?_
  refine r_iload_n (pc := 5) dX2_preyOf_5 rfl ?_
  refine iv_X2_68 (c_X2_preyByRanks_18 _ _ _ c S n hR hc (r1.1.ms hm).1 ((r1.1.ms hm).2.2.2.2.2 c hc).2.2.2.1 ((r1.1.ms hm).2.2.2.2.2 c hc).2.2.2.2.1 r1.2) (pc := 6) dX2_preyOf_6 rfl ⟨Nat.le_of_ble_eq_true rfl, Nat.le_of_ble_eq_true rfl⟩ (Nat.le_of_ble_eq_true rfl) hcs (kI ?_)
  exact r_iret (pc := 9) dX2_preyOf_9 rfl ⟨rfl, r1.1⟩
set_option maxHeartbeats 4000000 in
set_option maxRecDepth 100000 in
theorem c_X2_sawLeg_18 (l : Launch) (G : Gx) (M : Mem) (c b L x : Nat) (hc : c < 6) (hb : b ≤ 9) (hL : L ≤ 60) (eL : M 20 c = nI L) (hx : x = (if M 19 c = nI 4 ∨ M 19 c = nI 5 then b / 2 else b)) : Con l G yX2_sawLeg cX2_sawLeg 5 (some .boolean) 1 60 [.ref (gA G 18), .int (nI c), .int (nI b)] M (rI (bI (L - x < L)) (mset M 20 c (nI (L - x)))) := by
  refine Con.ofV [some (.ref (gA G 18)), some (.int (nI c)), some (.int (nI b)), none, none] RX2 (by decide) rfl (Nat.le_of_ble_eq_true rfl) rfl ?_
  intro κ hl hG hk0 hn0
  subst hl hG
  have hcs : κ.k ≤ 0 ∧ κ.n ≤ 0 := ⟨Nat.le_of_eq hk0, Nat.le_of_eq hn0⟩
  have hx9 : x ≤ 9 := by rw [hx]; split <;> omega
  have J25 : ∀ u : Int32, (u = 0 ↔ ¬ (M 19 c = nI 4 ∨ M 19 c = nI 5)) → V κ cX2_sawLeg RX2 5 (some .boolean) (rmx 1 60) (QM κ (rI (bI (L - x < L)) (mset M 20 c (nI (L - x))))) M 25 [some (.ref (gA κ.G 18)), some (.int (nI c)), some (.int (nI b)), none, none] [.int u] := by
    intro u hu
    refine r_st_n [_, _, _, _, _] (pc := 25) dX2_sawLeg_25 (by decide) rfl rfl ?_
    refine r_aload_n (pc := 26) dX2_sawLeg_26 rfl ?_
    refine gf_X2_15 (pc := 27) dX2_sawLeg_27 rfl ?_
    refine r_iload_n (pc := 30) dX2_sawLeg_30 rfl ?_
    refine r_iald (pc := 31) dX2_sawLeg_31 rfl (show _ < 6 by omega) ?_
    refine r_is (nI L) eL ?_
    refine r_st [_, _, _, _, _] (pc := 32) dX2_sawLeg_32 (by decide) rfl rfl ?_
    refine r_aload_n (pc := 34) dX2_sawLeg_34 rfl ?_
    refine gf_X2_15 (pc := 35) dX2_sawLeg_35 rfl ?_
    refine r_iload_n (pc := 38) dX2_sawLeg_38 rfl ?_
    refine r_iconst (v := nI 0) (pc := 39) dX2_sawLeg_39 (by decide) ?_
    refine r_iload (pc := 40) dX2_sawLeg_40 rfl ?_
    refine r_iload_n (pc := 42) dX2_sawLeg_42 rfl ?_
    refine r_if_eq (tgt := 52) (pc := 43) dX2_sawLeg_43 (by decide) (fun h43 => ?_) (fun h43 => ?_)
    · have ex : nI b = nI x := by rw [hx, if_neg (hu.mp h43)]
      refine r_iload_n (pc := 52) dX2_sawLeg_52 rfl ?_
      refine r_is (nI x) ex ?_
      refine r_isub (pc := 53) dX2_sawLeg_53 ?_
      refine r_max (pc := 54) dX2_sawLeg_54 wl_X2_90 w_maxS w_MathI w_maxC (Nat.le_of_ble_eq_true rfl) (Nat.le_of_ble_eq_true rfl) hcs.1 hcs.2 ?_
      refine r_is (nI (L - x)) (max_sub hL hx9) ?_
      refine r_iast (pc := 57) dX2_sawLeg_57 rfl (show _ < 6 by omega) ?_
      refine r_aload_n (pc := 58) dX2_sawLeg_58 rfl ?_
      refine gf_X2_15 (pc := 59) dX2_sawLeg_59 rfl ?_
      refine r_iload_n (pc := 62) dX2_sawLeg_62 rfl ?_
      refine r_iald (pc := 63) dX2_sawLeg_63 rfl (show _ < 6 by omega) ?_
      refine r_is (nI (L - x)) (by rw [mset_eq, pk_us]) ?_
      refine r_iload (pc := 64) dX2_sawLeg_64 rfl ?_
      refine r_icmp_ge (tgt := 73) (pc := 66) dX2_sawLeg_66 (by decide) (fun h66 => ?_) (fun h66 => ?_)
      · have hp : ¬ L - x < L := fun z => by have := (nI_leI (by omega) (by omega)).mp h66; omega
        refine r_iconst (v := nI 0) (pc := 73) dX2_sawLeg_73 (by decide) ?_
        exact r_zret (pc := 74) dX2_sawLeg_74 rfl (by first | rfl | exact bI_narrow) (by first | exact ⟨by rw [bI_t hp], rfl⟩ | exact ⟨by rw [bI_f hp], rfl⟩)
      · have hp : L - x < L := Nat.not_le.mp (fun z => h66 (nI_le z (by omega)))
        refine r_iconst (v := nI 1) (pc := 69) dX2_sawLeg_69 (by decide) ?_
        refine r_goto (tgt := 74) (pc := 70) dX2_sawLeg_70 (by decide) ?_
        exact r_zret (pc := 74) dX2_sawLeg_74 rfl (by first | rfl | exact bI_narrow) (by first | exact ⟨by rw [bI_t hp], rfl⟩ | exact ⟨by rw [bI_f hp], rfl⟩)
    · have ex : nI b / nI 2 = nI x := by rw [hx, if_pos (Classical.byContradiction (fun z => h43 (hu.mpr z))), nI_div2 _ (by omega)]
      refine r_iload_n (pc := 46) dX2_sawLeg_46 rfl ?_
      refine r_iconst (v := nI 2) (pc := 47) dX2_sawLeg_47 (by decide) ?_
      refine r_idiv (pc := 48) dX2_sawLeg_48 (by decide) ?_
      refine r_goto (tgt := 53) (pc := 49) dX2_sawLeg_49 (by decide) ?_
      refine r_is (nI x) ex ?_
      refine r_isub (pc := 53) dX2_sawLeg_53 ?_
      refine r_max (pc := 54) dX2_sawLeg_54 wl_X2_90 w_maxS w_MathI w_maxC (Nat.le_of_ble_eq_true rfl) (Nat.le_of_ble_eq_true rfl) hcs.1 hcs.2 ?_
      refine r_is (nI (L - x)) (max_sub hL hx9) ?_
      refine r_iast (pc := 57) dX2_sawLeg_57 rfl (show _ < 6 by omega) ?_
      refine r_aload_n (pc := 58) dX2_sawLeg_58 rfl ?_
      refine gf_X2_15 (pc := 59) dX2_sawLeg_59 rfl ?_
      refine r_iload_n (pc := 62) dX2_sawLeg_62 rfl ?_
      refine r_iald (pc := 63) dX2_sawLeg_63 rfl (show _ < 6 by omega) ?_
      refine r_is (nI (L - x)) (by rw [mset_eq, pk_us]) ?_
      refine r_iload (pc := 64) dX2_sawLeg_64 rfl ?_
      refine r_icmp_ge (tgt := 73) (pc := 66) dX2_sawLeg_66 (by decide) (fun h66 => ?_) (fun h66 => ?_)
      · have hp : ¬ L - x < L := fun z => by have := (nI_leI (by omega) (by omega)).mp h66; omega
        refine r_iconst (v := nI 0) (pc := 73) dX2_sawLeg_73 (by decide) ?_
        exact r_zret (pc := 74) dX2_sawLeg_74 rfl (by first | rfl | exact bI_narrow) (by first | exact ⟨by rw [bI_t hp], rfl⟩ | exact ⟨by rw [bI_f hp], rfl⟩)
      · have hp : L - x < L := Nat.not_le.mp (fun z => h66 (nI_le z (by omega)))
        refine r_iconst (v := nI 1) (pc := 69) dX2_sawLeg_69 (by decide) ?_
        refine r_goto (tgt := 74) (pc := 70) dX2_sawLeg_70 (by decide) ?_
        exact r_zret (pc := 74) dX2_sawLeg_74 rfl (by first | rfl | exact bI_narrow) (by first | exact ⟨by rw [bI_t hp], rfl⟩ | exact ⟨by rw [bI_f hp], rfl⟩)
  refine r_aload_n (pc := 0) dX2_sawLeg_0 rfl ?_
  refine gf_X2_9 (pc := 1) dX2_sawLeg_1 rfl ?_
  refine r_iload_n (pc := 4) dX2_sawLeg_4 rfl ?_
  refine r_iald (pc := 5) dX2_sawLeg_5 rfl (show _ < 6 by omega) ?_
  refine r_iconst (v := nI 4) (pc := 6) dX2_sawLeg_6 (by decide) ?_
  refine r_icmp_eq (tgt := 20) (pc := 7) dX2_sawLeg_7 (by decide) (fun h7 => ?_) (fun h7 => ?_)
  · refine r_iconst (v := nI 1) (pc := 20) dX2_sawLeg_20 (by decide) ?_
    refine r_goto (tgt := 25) (pc := 21) dX2_sawLeg_21 (by decide) ?_
    exact J25 _ ⟨fun z => absurd z (by decide), fun z => absurd (by first | exact Or.inl h7 | exact Or.inr h17) z⟩
  · refine r_aload_n (pc := 10) dX2_sawLeg_10 rfl ?_
    refine gf_X2_9 (pc := 11) dX2_sawLeg_11 rfl ?_
    refine r_iload_n (pc := 14) dX2_sawLeg_14 rfl ?_
    refine r_iald (pc := 15) dX2_sawLeg_15 rfl (show _ < 6 by omega) ?_
    refine r_iconst (v := nI 5) (pc := 16) dX2_sawLeg_16 (by decide) ?_
    refine r_icmp_ne (tgt := 24) (pc := 17) dX2_sawLeg_17 (by decide) (fun h17 => ?_) (fun h17 => ?_)
    · refine r_iconst (v := nI 0) (pc := 24) dX2_sawLeg_24 (by decide) ?_
      exact J25 _ ⟨fun _ z => z.elim h7 h17, fun _ => rfl⟩
    · refine r_iconst (v := nI 1) (pc := 20) dX2_sawLeg_20 (by decide) ?_
      refine r_goto (tgt := 25) (pc := 21) dX2_sawLeg_21 (by decide) ?_
      exact J25 _ ⟨fun z => absurd z (by decide), fun z => absurd (by first | exact Or.inl h7 | exact Or.inr h17) z⟩
set_option maxHeartbeats 4000000 in
set_option maxRecDepth 100000 in
theorem c_X2_passNight_18 (l : Launch) (G : Gx) (M : Mem) (S : Nat → Int32) (n : Nat) (hm : ms 18 n S M) (hR : Rg n S) (hn1 : 0 < n) : Con l G yX2_passNight cX2_passNight 4 (some .boolean) 2 84 [.ref (gA G 18)] M (qI (bI (¬ sumN (nightP S n) 11 n = sumN S 11 n)) (fun N5 => fro 18 M N5 ∧ ms 18 n (nightP S n) N5)) := by
  refine Con.ofV [some (.ref (gA G 18)), none, none, none] RX2 (by decide) rfl (Nat.le_of_ble_eq_true rfl) rfl ?_
  intro κ hl hG hk0 hn0
  subst hl hG
  have hcs : κ.k ≤ 0 ∧ κ.n ≤ 0 := ⟨Nat.le_of_eq hk0, Nat.le_of_eq hn0⟩
  have hn6 := hR.1
  obtain ⟨w, hw64, hw⟩ := hR.w
  refine r_aload_n (pc := 0) dX2_passNight_0 rfl ?_
  refine iv_X2_65 (c_X2_reckonRanks_18 _ _ _ _ _ (by assumption) (by assumption)) (pc := 1) dX2_passNight_1 rfl ⟨Nat.le_of_ble_eq_true rfl, Nat.le_of_ble_eq_true rfl⟩ (Nat.le_of_ble_eq_true rfl) hcs (kqV (fun N1 r1 => ?_))
  refine r_iconst (v := nI 0) (pc := 4) dX2_passNight_4 (by decide) ?_
  refine r_st_n [_, _, _, _] (pc := 5) dX2_passNight_5 (by decide) rfl rfl ?_
  refine r_iconst (v := nI 0) (pc := 6) dX2_passNight_6 (by decide) ?_
  refine r_st_n [_, _, _, _] (pc := 7) dX2_passNight_7 (by decide) rfl rfl ?_
  refine V.bk (loopV (fun (σ : Nat × Int32 × Mem) => V κ cX2_passNight RX2 4 (some .boolean) (rmx 2 84) (QM κ (qI (bI (¬ sumN (nightP S n) 11 n = sumN S 11 n)) (fun N5 => fro 18 M N5 ∧ ms 18 n (nightP S n) N5))) (σ.2.2) 8 [some (.ref (gA κ.G 18)), some (.int (σ.2.1)), some (.int (nI (σ.1))), none] []) (fun (σ : Nat × Int32 × Mem) => (σ.1) ≤ n ∧ ngI 18 n S M (σ.1) (σ.2.1) (σ.2.2)) (fun (σ : Nat × Int32 × Mem) => n - (σ.1)) ?_ (0, nI 0, N1) ⟨Nat.zero_le _, ngI_0 hm hR r1.1 r1.2⟩) rfl (by (repeat (first | exact wk_0 | refine wk_n ?_ | refine wk_s rfl ?_)); done)
  rintro ⟨s, u, N⟩ hI0 ih
  dsimp only at hI0 ih
  obtain ⟨hs, hI⟩ := hI0
  show V κ cX2_passNight RX2 4 (some .boolean) (rmx 2 84) (QM κ (qI (bI (¬ sumN (nightP S n) 11 n = sumN S 11 n)) (fun N5 => fro 18 M N5 ∧ ms 18 n (nightP S n) N5))) N 8 [some (.ref (gA κ.G 18)), some (.int u), some (.int (nI s)), none] []
  have J78 : ∀ (u2 : Int32) (K : Mem), s < n → ngI 18 n S M (s + 1) u2 K → V κ cX2_passNight RX2 4 (some .boolean) (rmx 2 84) (QM κ (qI (bI (¬ sumN (nightP S n) 11 n = sumN S 11 n)) (fun N5 => fro 18 M N5 ∧ ms 18 n (nightP S n) N5))) K 78 [some (.ref (gA κ.G 18)), some (.int u2), some (.int (nI s)), none] [] := by
    intro u2 K hsn hK
    first | refine r_inc [_, _, _, _] (pc := 78) dX2_passNight_78 rfl (nI_inc _) (by decide) rfl rfl ?_ | refine r_inc [_, _, _, _] (pc := 78) dX2_passNight_78 rfl rfl (by decide) rfl rfl ?_
    refine r_goto (tgt := 8) (pc := 81) dX2_passNight_81 (by decide) ?_
    exact V.bk (ih (s + 1, u2, K) ⟨by dsimp only; omega, hK⟩ (by dsimp only; omega)) rfl (by (repeat (first | exact wk_0 | refine wk_n ?_ | refine wk_s rfl ?_)); done)
  refine r_iload_n (pc := 8) dX2_passNight_8 rfl ?_
  refine r_aload_n (pc := 9) dX2_passNight_9 rfl ?_
  refine gf_X2_39 (pc := 10) dX2_passNight_10 rfl ?_
  refine r_is (nI n) (by first | exact hm.1 | exact (congrFun hI.2.1 0).trans hm.1) ?_
  refine r_icmp_ge (tgt := 84) (pc := 13) dX2_passNight_13 (by decide) (fun h13 => ?_) (fun h13 => ?_)
  · have h13 : n ≤ s := (nI_leI (by omega) (by omega)).mp h13
    obtain rfl : n = s := by omega
    obtain ⟨hu, hE⟩ := ngI_e hI hm hR hn1
    refine r_aload_n (pc := 84) dX2_passNight_84 rfl ?_
    refine r_dup (pc := 85) dX2_passNight_85 rfl ?_
    refine gf_X2_43 (pc := 86) dX2_passNight_86 rfl ?_
    refine r_iconst (v := nI 1) (pc := 89) dX2_passNight_89 (by decide) ?_
    first | with_reducible refine r_iaddN (pc := 90) dX2_passNight_90 ?_ | refine r_iadd (pc := 90) dX2_passNight_90 ?_
    refine pf_X2_43 (pc := 91) dX2_passNight_91 rfl ?_
    refine r_iload_n (pc := 94) dX2_passNight_94 rfl ?_
    refine r_is (bI (¬ sumN (nightP S n) 11 n = sumN S 11 n)) hu ?_
    exact r_zret (pc := 95) dX2_passNight_95 rfl (by first | rfl | exact bI_narrow) ⟨rfl, hE⟩
  · have h13 : s < n := Nat.not_le.mp (fun z => h13 ((nI_leI (by omega) (by omega)).mpr z))
    have e4 : N 22 s = S (17 + s) := by rw [(hI.2.2.2.1 s h13).2.2.2.1, if_neg (fun z => Nat.lt_irrefl _ z.1), sub0]
    obtain ⟨s1, s2⟩ := (hR.c h13).sw
    refine r_aload_n (pc := 16) dX2_passNight_16 rfl ?_
    refine r_iload_n (pc := 17) dX2_passNight_17 rfl ?_
    refine iv_X2_68 (c_X2_preyByRanks_18 _ _ _ s S n hR h13 ((congrFun hI.2.1 0).trans hm.1) e4 (hI.2.2.2.1 s h13).2.2.2.2.1 hI.2.2.1) (pc := 18) dX2_passNight_18 rfl ⟨Nat.le_of_ble_eq_true rfl, Nat.le_of_ble_eq_true rfl⟩ (Nat.le_of_ble_eq_true rfl) hcs (kI ?_)
    refine r_st_n [_, _, _, _] (pc := 21) dX2_passNight_21 (by decide) rfl rfl ?_
    refine r_iload_n (pc := 22) dX2_passNight_22 rfl ?_
    refine r_ldc (pc := 23) dX2_passNight_23 lk_X2_81 ?_
    refine r_icmp_ne (tgt := 31) (pc := 25) dX2_passNight_25 (by decide) (fun h25 => ?_) (fun h25 => ?_)
    · obtain ⟨d, hd, ht⟩ : ∃ d, d < n ∧ tgtS S n s = nI d := by
        rcases tgt_case (S := S) (c := s) hn1 hn6 with z | ⟨d, hd, e, -⟩
        · exact absurd z.1 h25
        · exact ⟨d, hd, e⟩
      refine V.bk (f' := [some (.ref (gA κ.G 18)), some (.int u), some (.int (nI s)), some (.int (nI d))]) ?_ rfl (by rw [ht]; (repeat (first | exact wk_0 | refine wk_n ?_ | refine wk_s rfl ?_)); done)
      refine r_aload_n (pc := 31) dX2_passNight_31 rfl ?_
      refine r_iload_n (pc := 32) dX2_passNight_32 rfl ?_
      refine iv_X2_82 (c_X2_isWatched_18 _ _ _ d w (by omega) ((congrFun hI.2.1 4).trans (hm.2.2.2.2.1.trans hw)) hw64) (pc := 33) dX2_passNight_33 rfl ⟨Nat.le_of_ble_eq_true rfl, Nat.le_of_ble_eq_true rfl⟩ (Nat.le_of_ble_eq_true rfl) hcs (kI ?_)
      refine r_ifeq_b (tgt := 62) (pc := 36) dX2_passNight_36 (by decide) (fun h36 => ?_) (fun h36 => ?_)
      · have hwd : ¬ hasB (S 4) (nI d) := by rw [hI.2.1, hm.2.2.2.2.1] at h36; exact h36
        refine r_aload_n (pc := 62) dX2_passNight_62 rfl ?_
        refine r_iload_n (pc := 63) dX2_passNight_63 rfl ?_
        refine r_aload_n (pc := 64) dX2_passNight_64 rfl ?_
        refine gf_X2_21 (pc := 65) dX2_passNight_65 rfl ?_
        refine r_iload_n (pc := 68) dX2_passNight_68 rfl ?_
        refine r_iald (pc := 69) dX2_passNight_69 rfl (show _ < 6 by omega) ?_
        refine r_is (nI (swS S s)) (e4.trans s1) ?_
        have ld := (hR.c hd).lg
        have hsx := (sawnS_n (c := d) (hR.c h13)).2
        refine iv_X2_86 (c_X2_sawLeg_18 _ _ _ d (swS S s) (lgS S d - oN S n s d) (sawA S s d) (by omega) s2 (by omega) (hI.2.2.2.1 d hd).2.1 (by unfold sawA; rw [(hI.2.2.2.1 d hd).1])) (pc := 70) dX2_passNight_70 rfl ⟨Nat.le_of_ble_eq_true rfl, Nat.le_of_ble_eq_true rfl⟩ (Nat.le_of_ble_eq_true rfl) hcs (kI ?_)
        refine r_ifeq_b (tgt := 78) (pc := 73) dX2_passNight_73 (by decide) (fun h73 => ?_) (fun h73 => ?_)
        · exact V.bk (J78 u (mset N 20 d (nI (lgS S d - oN S n s d - sawA S s d))) h13 (ngI_c (o := 18) hI hn6 hd ht hwd (Or.inr ⟨h73, rfl⟩))) rfl (by (repeat (first | exact wk_0 | refine wk_n ?_ | refine wk_s rfl ?_)); done)
        · refine r_iconst (v := nI 1) (pc := 76) dX2_passNight_76 (by decide) ?_
          refine r_st_n [_, _, _, _] (pc := 77) dX2_passNight_77 (by decide) rfl rfl ?_
          exact V.bk (J78 (nI 1) (mset N 20 d (nI (lgS S d - oN S n s d - sawA S s d))) h13 (ngI_c (o := 18) hI hn6 hd ht hwd (Or.inl ⟨h73, rfl⟩))) rfl (by (repeat (first | exact wk_0 | refine wk_n ?_ | refine wk_s rfl ?_)); done)
      · have hwd : hasB (S 4) (nI d) := by rw [hI.2.1, hm.2.2.2.2.1] at h36; exact h36
        refine r_aload_n (pc := 39) dX2_passNight_39 rfl ?_
        refine gf_X2_27 (pc := 40) dX2_passNight_40 rfl ?_
        refine r_iload_n (pc := 43) dX2_passNight_43 rfl ?_
        refine r_dup2 (pc := 44) dX2_passNight_44 rfl rfl ?_
        refine r_iald (pc := 45) dX2_passNight_45 rfl (show _ < 6 by omega) ?_
        refine r_iconst (v := nI 1) (pc := 46) dX2_passNight_46 (by decide) ?_
        first | with_reducible refine r_iaddN (pc := 47) dX2_passNight_47 ?_ | refine r_iadd (pc := 47) dX2_passNight_47 ?_
        refine r_iast (pc := 48) dX2_passNight_48 rfl (show _ < 6 by omega) ?_
        refine r_aload_n (pc := 49) dX2_passNight_49 rfl ?_
        refine gf_X2_21 (pc := 50) dX2_passNight_50 rfl ?_
        refine r_iload_n (pc := 53) dX2_passNight_53 rfl ?_
        refine r_dup2 (pc := 54) dX2_passNight_54 rfl rfl ?_
        refine r_iald (pc := 55) dX2_passNight_55 rfl (show _ < 6 by omega) ?_
        refine r_iconst (v := nI 1) (pc := 56) dX2_passNight_56 (by decide) ?_
        first | (with_reducible refine r_isubN (pc := 57) dX2_passNight_57 ?hle ?_; case hle => omega) | refine r_isub (pc := 57) dX2_passNight_57 ?_
        refine r_iast (pc := 58) dX2_passNight_58 rfl (show _ < 6 by omega) ?_
        refine r_goto (tgt := 78) (pc := 59) dX2_passNight_59 (by decide) ?_
        exact V.bk (J78 u (mset (mset N 24 s (N 24 s + nI 1)) 22 s (N 22 s - nI 1)) h13 (ngI_b (o := 18) hI hn6 h13 hd ht hwd)) rfl (by (repeat (first | exact wk_0 | refine wk_n ?_ | refine wk_s rfl ?_)); done)
    · refine r_goto (tgt := 78) (pc := 28) dX2_passNight_28 (by decide) ?_
      exact V.bk (J78 _ _ h13 (ngI_a hI hn6 h25)) rfl (by (repeat (first | exact wk_0 | refine wk_n ?_ | refine wk_s rfl ?_)); done)
set_option maxHeartbeats 4000000 in
set_option maxRecDepth 100000 in
theorem c_X2_passNights_18 (l : Launch) (G : Gx) (M : Mem) (m : Nat) (hm60 : m ≤ 60) (S : Nat → Int32) (n : Nat) (hm : ms 18 n S M) (hR : Rg n S) (hn1 : 0 < n) : Con l G yX2_passNights cX2_passNights 3 none 3 107 [.ref (gA G 18), .int (nI m)] M (qV (fun N5 => fro 18 M N5 ∧ ∃ T, ms 18 n T N5 ∧ Rg n T ∧ sk n T (goP S n m))) := by
  refine Con.ofV [some (.ref (gA G 18)), some (.int (nI m)), none] RX2 (by decide) rfl (Nat.le_of_ble_eq_true rfl) rfl ?_
  intro κ hl hG hk0 hn0
  subst hl hG
  have hcs : κ.k ≤ 0 ∧ κ.n ≤ 0 := ⟨Nat.le_of_eq hk0, Nat.le_of_eq hn0⟩
  have hn6 := hR.1
  refine r_iconst (v := nI 0) (pc := 0) dX2_passNights_0 (by decide) ?_
  refine r_st_n [_, _, _] (pc := 1) dX2_passNights_1 (by decide) rfl rfl ?_
  refine V.bk (loopV (fun (σ : Nat × Mem) => V κ cX2_passNights RX2 3 none (rmx 3 107) (QM κ (qV (fun N5 => fro 18 M N5 ∧ ∃ T, ms 18 n T N5 ∧ Rg n T ∧ sk n T (goP S n m)))) (σ.2) 2 [some (.ref (gA κ.G 18)), some (.int (nI m)), some (.int (nI (σ.1)))] []) (fun (σ : Nat × Mem) => (σ.1) ≤ m ∧ fro 18 M (σ.2) ∧ ms 18 n (goP S n (σ.1)) (σ.2)) (fun (σ : Nat × Mem) => m - (σ.1)) ?_ (0, M) ⟨Nat.zero_le _, fro.refl _ _, hm⟩) rfl (by (repeat (first | exact wk_0 | refine wk_n ?_ | refine wk_s rfl ?_)); done)
  rintro ⟨j, N⟩ hI0 ih
  dsimp only at hI0 ih
  obtain ⟨hj, hf, hmj⟩ := hI0
  show V κ cX2_passNights RX2 3 none (rmx 3 107) (QM κ (qV (fun N5 => fro 18 M N5 ∧ ∃ T, ms 18 n T N5 ∧ Rg n T ∧ sk n T (goP S n m)))) N 2 [some (.ref (gA κ.G 18)), some (.int (nI m)), some (.int (nI j))] []
  refine r_iload_n (pc := 2) dX2_passNights_2 rfl ?_
  refine r_iload_n (pc := 3) dX2_passNights_3 rfl ?_
  refine r_icmp_ge (tgt := 21) (pc := 4) dX2_passNights_4 (by decide) (fun h4 => ?_) (fun h4 => ?_)
  · have h4 : m ≤ j := (nI_leI (by omega) (by omega)).mp h4
    obtain rfl : m = j := by omega
    exact r_vret (pc := 21) dX2_passNights_21 rfl ⟨rfl, hf, goP S n m, hmj, hR.go hn1 m, sk.refl _ _⟩
  · have h4 : j < m := Nat.not_le.mp (fun z => h4 ((nI_leI (by omega) (by omega)).mpr z))
    refine r_aload_n (pc := 7) dX2_passNights_7 rfl ?_
    refine iv_X2_93 (c_X2_passNight_18 _ _ _ (goP S n j) n hmj (hR.go hn1 j) hn1) (pc := 8) dX2_passNights_8 rfl ⟨Nat.le_of_ble_eq_true rfl, Nat.le_of_ble_eq_true rfl⟩ (Nat.le_of_ble_eq_true rfl) hcs (kqI (fun N8 r8 => ?_))
    refine r_ifne_b (tgt := 15) (pc := 11) dX2_passNights_11 (by decide) (fun h11 => ?_) (fun h11 => ?_)
    · first | refine r_inc [_, _, _] (pc := 15) dX2_passNights_15 rfl (nI_inc _) (by decide) rfl rfl ?_ | refine r_inc [_, _, _] (pc := 15) dX2_passNights_15 rfl rfl (by decide) rfl rfl ?_
      refine r_goto (tgt := 2) (pc := 18) dX2_passNights_18 (by decide) ?_
      exact V.bk (ih (j + 1, N8) ⟨by dsimp only; omega, hf.trans r8.1, r8.2⟩ (by dsimp only; omega)) rfl (by (repeat (first | exact wk_0 | refine wk_n ?_ | refine wk_s rfl ?_)); done)
    · exact r_vret (pc := 14) dX2_passNights_14 rfl ⟨rfl, hf.trans r8.1, goP S n (j + 1), r8.2, hR.go hn1 (j + 1), ((still.far ((still_sum (hR.go hn1 j) hn1).mp (Decidable.of_not_not h11)) hR hn1 (Nat.le_succ j)).trans (still.far ((still_sum (hR.go hn1 j) hn1).mp (Decidable.of_not_not h11)) hR hn1 (show j ≤ m by omega)).symm)⟩
set_option maxHeartbeats 4000000 in
set_option maxRecDepth 100000 in
theorem c_X2_reckonRanks_28 (l : Launch) (G : Gx) (M : Mem) (S : Nat → Int32) (n : Nat) (hm : ms 28 n S M) (hR : Rg n S) : Con l G yX2_reckonRanks cX2_reckonRanks 3 none 1 22 [.ref (gA G 28)] M (qV (fun N5 => fr3 28 M N5 ∧ rk 28 n S N5)) := by
  refine Con.ofV [some (.ref (gA G 28)), none, none] RX2 (by decide) rfl (Nat.le_of_ble_eq_true rfl) rfl ?_
  intro κ hl hG hk0 hn0
  subst hl hG
  have hcs : κ.k ≤ 0 ∧ κ.n ≤ 0 := ⟨Nat.le_of_eq hk0, Nat.le_of_eq hn0⟩
  have hn6 := hR.1
  refine r_iconst (v := nI 0) (pc := 0) dX2_reckonRanks_0 (by decide) ?_
  refine r_st_n [_, _, _] (pc := 1) dX2_reckonRanks_1 (by decide) rfl rfl ?_
  refine V.bk (loopV (fun (σ : Nat × Mem) => V κ cX2_reckonRanks RX2 3 none (rmx 1 22) (QM κ (qV (fun N5 => fr3 28 M N5 ∧ rk 28 n S N5))) (σ.2) 2 [some (.ref (gA κ.G 28)), some (.int (nI (σ.1))), none] []) (fun (σ : Nat × Mem) => (σ.1) ≤ n ∧ fr3 28 M (σ.2) ∧ ∀ c, c < (σ.1) → (σ.2) 35 c = highS S c ∧ (σ.2) 36 c = nI 0) (fun (σ : Nat × Mem) => n - (σ.1)) ?_ (0, M) ⟨Nat.zero_le _, fr3.refl _ _, fun c h => absurd h (Nat.not_lt_zero c)⟩) rfl (by (repeat (first | exact wk_0 | refine wk_n ?_ | refine wk_s rfl ?_)); done)
  rintro ⟨j, N⟩ hI0 ih
  dsimp only at hI0 ih
  obtain ⟨hj, hf, hi⟩ := hI0
  show V κ cX2_reckonRanks RX2 3 none (rmx 1 22) (QM κ (qV (fun N5 => fr3 28 M N5 ∧ rk 28 n S N5))) N 2 [some (.ref (gA κ.G 28)), some (.int (nI j)), none] []
  refine r_iload_n (pc := 2) dX2_reckonRanks_2 rfl ?_
  refine r_aload_n (pc := 3) dX2_reckonRanks_3 rfl ?_
  refine gf_X2_39 (pc := 4) dX2_reckonRanks_4 rfl ?_
  refine r_is (nI n) (by first | exact hm.1 | exact (hf.ms hm).1 | exact (hfK.ms hm).1) ?_
  refine r_icmp_ge (tgt := 34) (pc := 7) dX2_reckonRanks_7 (by decide) (fun h7 => ?_) (fun h7 => ?_)
  · have h7 : n ≤ j := (nI_leI (by omega) (by omega)).mp h7
    obtain rfl : n = j := by omega
    refine r_iconst (v := nI 0) (pc := 34) dX2_reckonRanks_34 (by decide) ?_
    refine r_st_n [_, _, _] (pc := 35) dX2_reckonRanks_35 (by decide) rfl rfl ?_
    refine V.bk (loopV (fun (σ : Nat × Mem) => V κ cX2_reckonRanks RX2 3 none (rmx 1 22) (QM κ (qV (fun N5 => fr3 28 M N5 ∧ rk 28 n S N5))) (σ.2) 36 [some (.ref (gA κ.G 28)), some (.int (nI (σ.1))), none] []) (fun (σ : Nat × Mem) => (σ.1) ≤ n ∧ fr3 28 M (σ.2) ∧ (∀ c, c < n → (σ.2) 35 c = highS S c) ∧ ∀ c, c < n → (σ.2) 36 c = nI (rkP S n (σ.1) ((σ.1) + 1) c)) (fun (σ : Nat × Mem) => n - (σ.1)) ?_ (0, N) ⟨Nat.zero_le _, hf, fun c hc => (hi c hc).1, fun c hc => by rw [rkP_0]; exact (hi c hc).2⟩) rfl (by (repeat (first | exact wk_0 | refine wk_n ?_ | refine wk_s rfl ?_)); done)
    rintro ⟨i, N⟩ hI0 ih2
    dsimp only at hI0 ih2
    obtain ⟨hi2, hf, h7, h8⟩ := hI0
    show V κ cX2_reckonRanks RX2 3 none (rmx 1 22) (QM κ (qV (fun N5 => fr3 28 M N5 ∧ rk 28 n S N5))) N 36 [some (.ref (gA κ.G 28)), some (.int (nI i)), none] []
    refine r_iload_n (pc := 36) dX2_reckonRanks_36 rfl ?_
    refine r_aload_n (pc := 37) dX2_reckonRanks_37 rfl ?_
    refine gf_X2_39 (pc := 38) dX2_reckonRanks_38 rfl ?_
    refine r_is (nI n) (by first | exact hm.1 | exact (hf.ms hm).1 | exact (hfK.ms hm).1) ?_
    refine r_icmp_ge (tgt := 106) (pc := 41) dX2_reckonRanks_41 (by decide) (fun h41 => ?_) (fun h41 => ?_)
    · have h41 : n ≤ i := (nI_leI (by omega) (by omega)).mp h41
      obtain rfl : n = i := by omega
      refine r_iconst (v := nI 0) (pc := 106) dX2_reckonRanks_106 (by decide) ?_
      refine r_st_n [_, _, _] (pc := 107) dX2_reckonRanks_107 (by decide) rfl rfl ?_
      refine V.bk (loopV (fun (σ : Nat × Mem) => V κ cX2_reckonRanks RX2 3 none (rmx 1 22) (QM κ (qV (fun N5 => fr3 28 M N5 ∧ rk 28 n S N5))) (σ.2) 108 [some (.ref (gA κ.G 28)), some (.int (nI (σ.1))), none] []) (fun (σ : Nat × Mem) => (σ.1) ≤ n ∧ fr3 28 M (σ.2) ∧ (∀ c, c < n → (σ.2) 36 c = nI (rankN S c n)) ∧ ∀ c, c < (σ.1) → (σ.2) 37 (rankN S c n) = nI c) (fun (σ : Nat × Mem) => n - (σ.1)) ?_ (0, N) ⟨Nat.zero_le _, hf, fun c hc => (h8 c hc).trans (by rw [rkP_e S _ hc]), fun c h => absurd h (Nat.not_lt_zero c)⟩) rfl (by (repeat (first | exact wk_0 | refine wk_n ?_ | refine wk_s rfl ?_)); done)
      rintro ⟨i, N⟩ hI0 ih4
      dsimp only at hI0 ih4
      obtain ⟨hi3, hf, h8, h9⟩ := hI0
      show V κ cX2_reckonRanks RX2 3 none (rmx 1 22) (QM κ (qV (fun N5 => fr3 28 M N5 ∧ rk 28 n S N5))) N 108 [some (.ref (gA κ.G 28)), some (.int (nI i)), none] []
      refine r_iload_n (pc := 108) dX2_reckonRanks_108 rfl ?_
      refine r_aload_n (pc := 109) dX2_reckonRanks_109 rfl ?_
      refine gf_X2_39 (pc := 110) dX2_reckonRanks_110 rfl ?_
      refine r_is (nI n) (by first | exact hm.1 | exact (hf.ms hm).1 | exact (hfK.ms hm).1) ?_
      refine r_icmp_ge (tgt := 134) (pc := 113) dX2_reckonRanks_113 (by decide) (fun h113 => ?_) (fun h113 => ?_)
      · have h113 : n ≤ i := (nI_leI (by omega) (by omega)).mp h113
        obtain rfl : n = i := by omega
        exact r_vret (pc := 134) dX2_reckonRanks_134 rfl ⟨rfl, hf, fun c hc => ⟨h8 c hc, h9 c hc⟩⟩
      · have h113 : i < n := Nat.not_le.mp (fun z => h113 ((nI_leI (by omega) (by omega)).mpr z))
        refine r_aload_n (pc := 116) dX2_reckonRanks_116 rfl ?_
        refine gf_X2_36 (pc := 117) dX2_reckonRanks_117 rfl ?_
        refine r_aload_n (pc := 120) dX2_reckonRanks_120 rfl ?_
        refine gf_X2_33 (pc := 121) dX2_reckonRanks_121 rfl ?_
        refine r_iload_n (pc := 124) dX2_reckonRanks_124 rfl ?_
        refine r_iald (pc := 125) dX2_reckonRanks_125 rfl (show _ < 6 by omega) ?_
        refine r_is (nI (rankN S i n)) (h8 i (by omega)) ?_
        have hrl := rank_lt S (show i < n by omega)
        refine r_iload_n (pc := 126) dX2_reckonRanks_126 rfl ?_
        refine r_iast (pc := 127) dX2_reckonRanks_127 rfl (show _ < 6 by omega) ?_
        first | refine r_inc [_, _, _] (pc := 128) dX2_reckonRanks_128 rfl (nI_inc _) (by decide) rfl rfl ?_ | refine r_inc [_, _, _] (pc := 128) dX2_reckonRanks_128 rfl rfl (by decide) rfl rfl ?_
        refine r_goto (tgt := 108) (pc := 131) dX2_reckonRanks_131 (by decide) ?_
        exact V.bk (ih4 (i + 1, mset N 37 (rankN S i n) (nI i)) ⟨by dsimp only; omega, hf.put _ _ _ (by omega), h8, or_s (o := 28) (by omega) h9⟩ (by dsimp only; omega)) rfl (by (repeat (first | exact wk_0 | refine wk_n ?_ | refine wk_s rfl ?_)); done)
    · have h41 : i < n := Nat.not_le.mp (fun z => h41 ((nI_leI (by omega) (by omega)).mpr z))
      refine r_iload_n (pc := 44) dX2_reckonRanks_44 rfl ?_
      refine r_iconst (v := nI 1) (pc := 45) dX2_reckonRanks_45 (by decide) ?_
      first | with_reducible refine r_iaddN (pc := 46) dX2_reckonRanks_46 ?_ | refine r_iadd (pc := 46) dX2_reckonRanks_46 ?_
      refine r_st_n [_, _, _] (pc := 47) dX2_reckonRanks_47 (by decide) rfl rfl ?_
      refine V.bk (loopV (fun (σ : Nat × Mem) => V κ cX2_reckonRanks RX2 3 none (rmx 1 22) (QM κ (qV (fun N5 => fr3 28 M N5 ∧ rk 28 n S N5))) (σ.2) 48 [some (.ref (gA κ.G 28)), some (.int (nI i)), some (.int (nI (σ.1)))] []) (fun (σ : Nat × Mem) => i < (σ.1) ∧ (σ.1) ≤ n ∧ fr3 28 M (σ.2) ∧ (∀ c, c < n → (σ.2) 35 c = highS S c) ∧ ∀ c, c < n → (σ.2) 36 c = nI (rkP S n i (σ.1) c)) (fun (σ : Nat × Mem) => n - (σ.1)) ?_ (i + 1, N) ⟨Nat.lt_succ_self _, h41, hf, h7, h8⟩) rfl (by (repeat (first | exact wk_0 | refine wk_n ?_ | refine wk_s rfl ?_)); done)
      rintro ⟨j, K⟩ hI0 ih3
      dsimp only at hI0 ih3
      obtain ⟨hij, hjn, hfK, k7, k8⟩ := hI0
      show V κ cX2_reckonRanks RX2 3 none (rmx 1 22) (QM κ (qV (fun N5 => fr3 28 M N5 ∧ rk 28 n S N5))) K 48 [some (.ref (gA κ.G 28)), some (.int (nI i)), some (.int (nI j))] []
      refine r_iload_n (pc := 48) dX2_reckonRanks_48 rfl ?_
      refine r_aload_n (pc := 49) dX2_reckonRanks_49 rfl ?_
      refine gf_X2_39 (pc := 50) dX2_reckonRanks_50 rfl ?_
      refine r_is (nI n) (by first | exact hm.1 | exact (hf.ms hm).1 | exact (hfK.ms hm).1) ?_
      refine r_icmp_ge (tgt := 100) (pc := 53) dX2_reckonRanks_53 (by decide) (fun h53 => ?_) (fun h53 => ?_)
      · have h53 : n ≤ j := (nI_leI (by omega) (by omega)).mp h53
        obtain rfl : n = j := by omega
        first | refine r_inc [_, _, _] (pc := 100) dX2_reckonRanks_100 rfl (nI_inc _) (by decide) rfl rfl ?_ | refine r_inc [_, _, _] (pc := 100) dX2_reckonRanks_100 rfl rfl (by decide) rfl rfl ?_
        refine r_goto (tgt := 36) (pc := 103) dX2_reckonRanks_103 (by decide) ?_
        exact V.bk (ih2 (i + 1, K) ⟨by dsimp only; omega, hfK, k7, fun c hc => by rw [rkP_i S hc]; exact k8 c hc⟩ (by dsimp only; omega)) rfl (by (repeat (first | exact wk_0 | refine wk_n ?_ | refine wk_s rfl ?_)); done)
      · have h53 : j < n := Nat.not_le.mp (fun z => h53 ((nI_leI (by omega) (by omega)).mpr z))
        refine r_aload_n (pc := 56) dX2_reckonRanks_56 rfl ?_
        refine gf_X2_30 (pc := 57) dX2_reckonRanks_57 rfl ?_
        refine r_iload_n (pc := 60) dX2_reckonRanks_60 rfl ?_
        refine r_iald (pc := 61) dX2_reckonRanks_61 rfl (show _ < 6 by omega) ?_
        refine r_is (highS S j) (k7 j (by omega)) ?_
        refine r_aload_n (pc := 62) dX2_reckonRanks_62 rfl ?_
        refine gf_X2_30 (pc := 63) dX2_reckonRanks_63 rfl ?_
        refine r_iload_n (pc := 66) dX2_reckonRanks_66 rfl ?_
        refine r_iald (pc := 67) dX2_reckonRanks_67 rfl (show _ < 6 by omega) ?_
        refine r_is (highS S i) (k7 i (by omega)) ?_
        refine r_icmp_le (tgt := 84) (pc := 68) dX2_reckonRanks_68 (by decide) (fun h68 => ?_) (fun h68 => ?_)
        · have hab : ¬ abv S j i = true := fun z => absurd ((abv_lt hij).mp z) (fun y => (fa_of_lt y).2.1 h68)
          refine r_aload_n (pc := 84) dX2_reckonRanks_84 rfl ?_
          refine gf_X2_33 (pc := 85) dX2_reckonRanks_85 rfl ?_
          refine r_iload_n (pc := 88) dX2_reckonRanks_88 rfl ?_
          refine r_dup2 (pc := 89) dX2_reckonRanks_89 rfl rfl ?_
          refine r_iald (pc := 90) dX2_reckonRanks_90 rfl (show _ < 6 by omega) ?_
          refine r_is (nI (rkP S n i j j)) (k8 j (by omega)) ?_
          refine r_iconst (v := nI 1) (pc := 91) dX2_reckonRanks_91 (by decide) ?_
          first | with_reducible refine r_iaddN (pc := 92) dX2_reckonRanks_92 ?_ | refine r_iadd (pc := 92) dX2_reckonRanks_92 ?_
          refine r_iast (pc := 93) dX2_reckonRanks_93 rfl (show _ < 6 by omega) ?_
          first | refine r_inc [_, _, _] (pc := 94) dX2_reckonRanks_94 rfl (nI_inc _) (by decide) rfl rfl ?_ | refine r_inc [_, _, _] (pc := 94) dX2_reckonRanks_94 rfl rfl (by decide) rfl rfl ?_
          refine r_goto (tgt := 48) (pc := 97) dX2_reckonRanks_97 (by decide) ?_
          first
            | exact V.bk (ih3 (j + 1, mset K 36 i (nI (rkP S n i j i + 1))) ⟨by dsimp only; omega, by dsimp only; omega, hfK.put _ _ _ (by omega), k7, rk_s1 (o := 28) k8 hij hab⟩ (by dsimp only; omega)) rfl (by (repeat (first | exact wk_0 | refine wk_n ?_ | refine wk_s rfl ?_)); done)
            | exact V.bk (ih3 (j + 1, mset K 36 j (nI (rkP S n i j j + 1))) ⟨by dsimp only; omega, by dsimp only; omega, hfK.put _ _ _ (by omega), k7, rk_s2 (o := 28) k8 hij hab⟩ (by dsimp only; omega)) rfl (by (repeat (first | exact wk_0 | refine wk_n ?_ | refine wk_s rfl ?_)); done)
        · have hab : abv S j i = true := (abv_lt hij).mpr (fa_of_nle h68)
          refine r_aload_n (pc := 71) dX2_reckonRanks_71 rfl ?_
          refine gf_X2_33 (pc := 72) dX2_reckonRanks_72 rfl ?_
          refine r_iload_n (pc := 75) dX2_reckonRanks_75 rfl ?_
          refine r_dup2 (pc := 76) dX2_reckonRanks_76 rfl rfl ?_
          refine r_iald (pc := 77) dX2_reckonRanks_77 rfl (show _ < 6 by omega) ?_
          refine r_is (nI (rkP S n i j i)) (k8 i (by omega)) ?_
          refine r_iconst (v := nI 1) (pc := 78) dX2_reckonRanks_78 (by decide) ?_
          first | with_reducible refine r_iaddN (pc := 79) dX2_reckonRanks_79 ?_ | refine r_iadd (pc := 79) dX2_reckonRanks_79 ?_
          refine r_iast (pc := 80) dX2_reckonRanks_80 rfl (show _ < 6 by omega) ?_
          refine r_goto (tgt := 94) (pc := 81) dX2_reckonRanks_81 (by decide) ?_
          first | refine r_inc [_, _, _] (pc := 94) dX2_reckonRanks_94 rfl (nI_inc _) (by decide) rfl rfl ?_ | refine r_inc [_, _, _] (pc := 94) dX2_reckonRanks_94 rfl rfl (by decide) rfl rfl ?_
          refine r_goto (tgt := 48) (pc := 97) dX2_reckonRanks_97 (by decide) ?_
          first
            | exact V.bk (ih3 (j + 1, mset K 36 i (nI (rkP S n i j i + 1))) ⟨by dsimp only; omega, by dsimp only; omega, hfK.put _ _ _ (by omega), k7, rk_s1 (o := 28) k8 hij hab⟩ (by dsimp only; omega)) rfl (by (repeat (first | exact wk_0 | refine wk_n ?_ | refine wk_s rfl ?_)); done)
            | exact V.bk (ih3 (j + 1, mset K 36 j (nI (rkP S n i j j + 1))) ⟨by dsimp only; omega, by dsimp only; omega, hfK.put _ _ _ (by omega), k7, rk_s2 (o := 28) k8 hij hab⟩ (by dsimp only; omega)) rfl (by (repeat (first | exact wk_0 | refine wk_n ?_ | refine wk_s rfl ?_)); done)
  · have h7 : j < n := Nat.not_le.mp (fun z => h7 ((nI_leI (by omega) (by omega)).mpr z))
    refine r_aload_n (pc := 10) dX2_reckonRanks_10 rfl ?_
    refine gf_X2_30 (pc := 11) dX2_reckonRanks_11 rfl ?_
    refine r_iload_n (pc := 14) dX2_reckonRanks_14 rfl ?_
    refine r_aload_n (pc := 15) dX2_reckonRanks_15 rfl ?_
    refine r_iload_n (pc := 16) dX2_reckonRanks_16 rfl ?_
    refine iv_X2_61 (c_X2_highOf_28 _ _ _ j S n (hf.ms hm) hR (by omega)) (pc := 17) dX2_reckonRanks_17 rfl ⟨Nat.le_of_ble_eq_true rfl, Nat.le_of_ble_eq_true rfl⟩ (Nat.le_of_ble_eq_true rfl) hcs (kI ?_)
    refine r_iast (pc := 20) dX2_reckonRanks_20 rfl (show _ < 6 by omega) ?_
    refine r_aload_n (pc := 21) dX2_reckonRanks_21 rfl ?_
    refine gf_X2_33 (pc := 22) dX2_reckonRanks_22 rfl ?_
    refine r_iload_n (pc := 25) dX2_reckonRanks_25 rfl ?_
    refine r_iconst (v := nI 0) (pc := 26) dX2_reckonRanks_26 (by decide) ?_
    refine r_iast (pc := 27) dX2_reckonRanks_27 rfl (show _ < 6 by omega) ?_
    first | refine r_inc [_, _, _] (pc := 28) dX2_reckonRanks_28 rfl (nI_inc _) (by decide) rfl rfl ?_ | refine r_inc [_, _, _] (pc := 28) dX2_reckonRanks_28 rfl rfl (by decide) rfl rfl ?_
    refine r_goto (tgt := 2) (pc := 31) dX2_reckonRanks_31 (by decide) ?_
    exact V.bk (ih (j + 1, mset (mset N 35 j (highS S j)) 36 j (nI 0)) ⟨by dsimp only; omega, (hf.put _ _ _ (by omega)).put _ _ _ (by omega), hi_s (o := 28) hi⟩ (by dsimp only; omega)) rfl (by (repeat (first | exact wk_0 | refine wk_n ?_ | refine wk_s rfl ?_)); done)
set_option maxHeartbeats 4000000 in
set_option maxRecDepth 100000 in
theorem c_X2_rankOf_28 (l : Launch) (G : Gx) (M : Mem) (c : Nat) (S : Nat → Int32) (n : Nat) (hm : ms 28 n S M) (hR : Rg n S) (hc : c < n) : Con l G yX2_rankOf cX2_rankOf 2 (some .int) 2 44 [.ref (gA G 28), .int (nI c)] M (qI (nI (rankN S c n)) (fr3 28 M)) := by
  refine Con.ofV [some (.ref (gA G 28)), some (.int (nI c))] RX2 (by decide) rfl (Nat.le_of_ble_eq_true rfl) rfl ?_
  intro κ hl hG hk0 hn0
  subst hl hG
  have hcs : κ.k ≤ 0 ∧ κ.n ≤ 0 := ⟨Nat.le_of_eq hk0, Nat.le_of_eq hn0⟩
  have hn6 := hR.1
  refine r_aload_n (pc := 0) dX2_rankOf_0 rfl ?_
  refine iv_X2_65 (c_X2_reckonRanks_28 _ _ _ _ _ (by assumption) (by assumption)) (pc := 1) dX2_rankOf_1 rfl ⟨Nat.le_of_ble_eq_true rfl, Nat.le_of_ble_eq_true rfl⟩ (Nat.le_of_ble_eq_true rfl) hcs (kqV (fun N1 r1 => ?_))
  refine r_aload_n (pc := 4) dX2_rankOf_4 rfl ?_
  refine gf_X2_33 (pc := 5) dX2_rankOf_5 rfl ?_
  refine r_iload_n (pc := 8) dX2_rankOf_8 rfl ?_
  refine r_iald (pc := 9) dX2_rankOf_9 rfl (show _ < 6 by omega) ?_
  refine r_is (nI (rankN S c n)) (r1.2 c hc).1 ?_
  exact r_iret (pc := 10) dX2_rankOf_10 rfl ⟨rfl, r1.1⟩
set_option maxHeartbeats 4000000 in
set_option maxRecDepth 100000 in
theorem c_X2_atRank_28 (l : Launch) (G : Gx) (M : Mem) (r : Nat) (S : Nat → Int32) (n : Nat) (hm : ms 28 n S M) (hR : Rg n S) (hr : r < n) : Con l G yX2_atRank cX2_atRank 2 (some .int) 2 44 [.ref (gA G 28), .int (nI r)] M (qI (atN S n (nI r) n) (fr3 28 M)) := by
  refine Con.ofV [some (.ref (gA G 28)), some (.int (nI r))] RX2 (by decide) rfl (Nat.le_of_ble_eq_true rfl) rfl ?_
  intro κ hl hG hk0 hn0
  subst hl hG
  have hcs : κ.k ≤ 0 ∧ κ.n ≤ 0 := ⟨Nat.le_of_eq hk0, Nat.le_of_eq hn0⟩
  have hn6 := hR.1
  obtain ⟨d, hd, ed⟩ := rank_all S hr
  refine r_aload_n (pc := 0) dX2_atRank_0 rfl ?_
  refine iv_X2_65 (c_X2_reckonRanks_28 _ _ _ _ _ (by assumption) (by assumption)) (pc := 1) dX2_atRank_1 rfl ⟨Nat.le_of_ble_eq_true rfl, Nat.le_of_ble_eq_true rfl⟩ (Nat.le_of_ble_eq_true rfl) hcs (kqV (fun N1 r1 => ?_))
  refine r_aload_n (pc := 4) dX2_atRank_4 rfl ?_
  refine gf_X2_36 (pc := 5) dX2_atRank_5 rfl ?_
  refine r_iload_n (pc := 8) dX2_atRank_8 rfl ?_
  refine r_iald (pc := 9) dX2_atRank_9 rfl (show _ < 6 by omega) ?_
  refine r_is (atN S n (nI r) n) (by have h := (r1.2 d hd).2; rw [ed] at h; rw [← ed, atN_r S hd hn6, ed]; exact h) ?_
  exact r_iret (pc := 10) dX2_atRank_10 rfl ⟨rfl, r1.1⟩
set_option maxHeartbeats 4000000 in
set_option maxRecDepth 100000 in
theorem c_X2_preyByRanks_28 (l : Launch) (G : Gx) (M : Mem) (c : Nat) (S : Nat → Int32) (n : Nat) (hR : Rg n S) (hc : c < n) (hsz : M 28 0 = nI n) (e4 : M 32 c = S (17 + c)) (e5 : M 33 c = S (23 + c)) (hrk : rk 28 n S M) : Con l G yX2_preyByRanks cX2_preyByRanks 3 (some .int) 0 0 [.ref (gA G 28), .int (nI c)] M (rI (tgtS S n c) M) := by
  refine Con.ofV [some (.ref (gA G 28)), some (.int (nI c)), none] RX2 (by decide) rfl (Nat.le_of_ble_eq_true rfl) rfl ?_
  intro κ hl hG hk0 hn0
  subst hl hG
  have hcs : κ.k ≤ 0 ∧ κ.n ≤ 0 := ⟨Nat.le_of_eq hk0, Nat.le_of_eq hn0⟩
  have hn6 := hR.1
  obtain ⟨s1, s2⟩ := (hR.c hc).sw
  have hrl := rank_lt S hc
  refine r_aload_n (pc := 0) dX2_preyByRanks_0 rfl ?_
  refine gf_X2_21 (pc := 1) dX2_preyByRanks_1 rfl ?_
  refine r_iload_n (pc := 4) dX2_preyByRanks_4 rfl ?_
  refine r_iald (pc := 5) dX2_preyByRanks_5 rfl (show _ < 6 by omega) ?_
  refine r_is (nI (swS S c)) (e4.trans s1) ?_
  refine r_iconst (v := nI 1) (pc := 6) dX2_preyByRanks_6 (by decide) ?_
  refine r_icmp_ge (tgt := 13) (pc := 7) dX2_preyByRanks_7 (by decide) (fun h7 => ?_) (fun h7 => ?_)
  · have z7 : ¬ S (17 + c) = 0 := fun z => by have := (nI_leI (by omega) (by omega)).mp h7; rw [s1] at z; have := (nI_eq (b := 0) (by omega) (by omega)).mp z; omega
    refine r_aload_n (pc := 13) dX2_preyByRanks_13 rfl ?_
    refine gf_X2_33 (pc := 14) dX2_preyByRanks_14 rfl ?_
    refine r_iload_n (pc := 17) dX2_preyByRanks_17 rfl ?_
    refine r_iald (pc := 18) dX2_preyByRanks_18 rfl (show _ < 6 by omega) ?_
    refine r_is (nI (rankN S c n)) (hrk c hc).1 ?_
    refine t_if_ne (tgt := 26) (J := 27) (a := ?pA19x1) (b := ?pB19x1) (pc := 19) dX2_preyByRanks_19 (by decide) (fun k19x1 => ?pT19x1) (fun k19x1 => ?pF19x1) ?pK19x1
    case pT19x1 =>
      refine r_iconst (v := nI 0) (pc := 26) dX2_preyByRanks_26 (by decide) ?_
      exact k19x1
    case pF19x1 =>
      refine r_iconst (v := nI 1) (pc := 22) dX2_preyByRanks_22 (by decide) ?_
      refine r_goto (tgt := 27) (pc := 23) dX2_preyByRanks_23 (by decide) ?_
      exact k19x1
    case pK19x1 =>
      refine r_st_n [_, _, _] (pc := 27) dX2_preyByRanks_27 (by decide) rfl rfl ?_
      refine r_aload_n (pc := 28) dX2_preyByRanks_28 rfl ?_
      refine gf_X2_24 (pc := 29) dX2_preyByRanks_29 rfl ?_
      refine r_iload_n (pc := 32) dX2_preyByRanks_32 rfl ?_
      refine r_iald (pc := 33) dX2_preyByRanks_33 rfl (show _ < 6 by omega) ?_
      refine r_is (S (23 + c)) e5 ?_
      refine r_tsw (lo := 1) (hi := 3) (tgt := 130) (pc := 34) dX2_preyByRanks_34 (by decide) (fun h34 => ?_) (fun q34 a34 b34 h34 => ?_)
      · refine r_ldc (pc := 130) dX2_preyByRanks_130 lk_X2_81 ?_
        refine r_is (tgtS S n c) (who_0 h34) ?_
        exact r_iret (pc := 132) dX2_preyByRanks_132 rfl ⟨rfl, rfl⟩
      · rcases (show q34 = 1 ∨ q34 = 2 ∨ q34 = 3 by omega) with rfl | rfl | rfl
        · refine r_tableIn (off := 26) (tgt := 60) (pc := 34) dX2_preyByRanks_34 (by decide) (by decide) rfl (by decide) ?_
          refine r_iload_n (pc := 60) dX2_preyByRanks_60 rfl ?_
          refine r_if_eq (tgt := 69) (pc := 61) dX2_preyByRanks_61 (by decide) (fun h61 => ?_) (fun h61 => ?_)
          · have hr0 : rankN S c n ≠ 0 := fun z => absurd h61 (by rw [if_pos (by rw [z]; rfl)]; decide)
            refine r_aload_n (pc := 69) dX2_preyByRanks_69 rfl ?_
            refine gf_X2_36 (pc := 70) dX2_preyByRanks_70 rfl ?_
            refine r_aload_n (pc := 73) dX2_preyByRanks_73 rfl ?_
            refine gf_X2_33 (pc := 74) dX2_preyByRanks_74 rfl ?_
            refine r_iload_n (pc := 77) dX2_preyByRanks_77 rfl ?_
            refine r_iald (pc := 78) dX2_preyByRanks_78 rfl (show _ < 6 by omega) ?_
            refine r_is (nI (rankN S c n)) (hrk c hc).1 ?_
            refine r_iconst (v := nI 1) (pc := 79) dX2_preyByRanks_79 (by decide) ?_
            first | (with_reducible refine r_isubN (pc := 80) dX2_preyByRanks_80 ?hle ?_; case hle => omega) | refine r_isub (pc := 80) dX2_preyByRanks_80 ?_
            refine r_iald (pc := 81) dX2_preyByRanks_81 rfl (show _ < 6 by omega) ?_
            exact r_iret (pc := 82) dX2_preyByRanks_82 rfl (by first | exact ⟨congrArg (fun z => some (Value.int z)) (prey_1n hn6 h34 hr0), rfl⟩ | exact ⟨congrArg (fun z => some (Value.int z)) (prey_1 (o := 28) hn6 hrk hc z7 h34 rfl hr0), rfl⟩)
          · have hr0 : rankN S c n = 0 := Classical.byContradiction (fun z => h61 (by rw [if_neg (show ¬ nI (rankN S c n) = 0 from fun y => z ((nI_eq (b := 0) (by omega) (by omega)).mp y))]; rfl))
            refine r_ldc (pc := 64) dX2_preyByRanks_64 lk_X2_81 ?_
            refine r_goto (tgt := 82) (pc := 66) dX2_preyByRanks_66 (by decide) ?_
            exact r_iret (pc := 82) dX2_preyByRanks_82 rfl (by first | exact ⟨congrArg (fun z => some (Value.int z)) (prey_1n hn6 h34 hr0), rfl⟩ | exact ⟨congrArg (fun z => some (Value.int z)) (prey_1 (o := 28) hn6 hrk hc z7 h34 rfl hr0), rfl⟩)
        · refine r_tableIn (off := 49) (tgt := 83) (pc := 34) dX2_preyByRanks_34 (by decide) (by decide) rfl (by decide) ?_
          refine r_iload_n (pc := 83) dX2_preyByRanks_83 rfl ?_
          refine r_if_eq (tgt := 92) (pc := 84) dX2_preyByRanks_84 (by decide) (fun h84 => ?_) (fun h84 => ?_)
          · have hr0 : rankN S c n ≠ 0 := fun z => absurd h84 (by rw [if_pos (by rw [z]; rfl)]; decide)
            refine r_aload_n (pc := 92) dX2_preyByRanks_92 rfl ?_
            refine gf_X2_36 (pc := 93) dX2_preyByRanks_93 rfl ?_
            refine r_iconst (v := nI 0) (pc := 96) dX2_preyByRanks_96 (by decide) ?_
            refine r_iald (pc := 97) dX2_preyByRanks_97 rfl (show _ < 6 by omega) ?_
            exact r_iret (pc := 98) dX2_preyByRanks_98 rfl (by first | exact ⟨congrArg (fun z => some (Value.int z)) (prey_2n hn6 hc h34 hr0), rfl⟩ | exact ⟨congrArg (fun z => some (Value.int z)) (prey_2 (o := 28) hn6 hrk hc z7 h34 hr0), rfl⟩)
          · have hr0 : rankN S c n = 0 := Classical.byContradiction (fun z => h84 (by rw [if_neg (show ¬ nI (rankN S c n) = 0 from fun y => z ((nI_eq (b := 0) (by omega) (by omega)).mp y))]; rfl))
            refine r_ldc (pc := 87) dX2_preyByRanks_87 lk_X2_81 ?_
            refine r_goto (tgt := 98) (pc := 89) dX2_preyByRanks_89 (by decide) ?_
            exact r_iret (pc := 98) dX2_preyByRanks_98 rfl (by first | exact ⟨congrArg (fun z => some (Value.int z)) (prey_2n hn6 hc h34 hr0), rfl⟩ | exact ⟨congrArg (fun z => some (Value.int z)) (prey_2 (o := 28) hn6 hrk hc z7 h34 hr0), rfl⟩)
        · refine r_tableIn (off := 65) (tgt := 99) (pc := 34) dX2_preyByRanks_34 (by decide) (by decide) rfl (by decide) ?_
          refine r_aload_n (pc := 99) dX2_preyByRanks_99 rfl ?_
          refine gf_X2_39 (pc := 100) dX2_preyByRanks_100 rfl ?_
          refine r_is (nI n) (hsz) ?_
          refine r_iconst (v := nI 2) (pc := 103) dX2_preyByRanks_103 (by decide) ?_
          refine r_icmp_ge (tgt := 112) (pc := 104) dX2_preyByRanks_104 (by decide) (fun h104 => ?_) (fun h104 => ?_)
          · have hn2 : 2 ≤ n := (nI_leI (by omega) (by omega)).mp h104
            refine r_iload_n (pc := 112) dX2_preyByRanks_112 rfl ?_
            refine r_iconst (v := nI 1) (pc := 113) dX2_preyByRanks_113 (by decide) ?_
            first | with_reducible refine r_iaddN (pc := 114) dX2_preyByRanks_114 ?_ | refine r_iadd (pc := 114) dX2_preyByRanks_114 ?_
            refine r_aload_n (pc := 115) dX2_preyByRanks_115 rfl ?_
            refine gf_X2_39 (pc := 116) dX2_preyByRanks_116 rfl ?_
            refine r_is (nI n) (hsz) ?_
            refine r_icmp_ge (tgt := 128) (pc := 119) dX2_preyByRanks_119 (by decide) (fun h119 => ?_) (fun h119 => ?_)
            · have hc1 : c + 1 = n := by have := (nI_leI (by omega) (by omega)).mp h119; omega
              have ht : nI 0 = tgtS S n c := (tgt_w z7 (by rw [who_3 h34, hc1, Nat.mod_self]) (fun z => by have := (nI_eq (by omega) (by omega)).mp z; omega)).symm
              refine r_iconst (v := nI 0) (pc := 128) dX2_preyByRanks_128 (by decide) ?_
              exact r_iret (pc := 129) dX2_preyByRanks_129 rfl ⟨congrArg (fun z => some (Value.int z)) ht, rfl⟩
            · have hc1 : c + 1 < n := Nat.not_le.mp (fun z => h119 (nI_le z (by omega)))
              have ht : nI (c + 1) = tgtS S n c := (tgt_w z7 (by rw [who_3 h34, Nat.mod_eq_of_lt hc1]) (fun z => by have := (nI_eq (by omega) (by omega)).mp z; omega)).symm
              refine r_iload_n (pc := 122) dX2_preyByRanks_122 rfl ?_
              refine r_iconst (v := nI 1) (pc := 123) dX2_preyByRanks_123 (by decide) ?_
              first | with_reducible refine r_iaddN (pc := 124) dX2_preyByRanks_124 ?_ | refine r_iadd (pc := 124) dX2_preyByRanks_124 ?_
              refine r_goto (tgt := 129) (pc := 125) dX2_preyByRanks_125 (by decide) ?_
              exact r_iret (pc := 129) dX2_preyByRanks_129 rfl ⟨congrArg (fun z => some (Value.int z)) ht, rfl⟩
          · have hn1 : n = 1 := Classical.byContradiction (fun z => h104 (nI_le (by omega) (by omega)))
            have ht : cNone = tgtS S n c := (tgt_n (Or.inr (by rw [who_3 h34, hn1, show c = 0 by omega]))).symm
            refine r_ldc (pc := 107) dX2_preyByRanks_107 lk_X2_81 ?_
            refine r_goto (tgt := 129) (pc := 109) dX2_preyByRanks_109 (by decide) ?_
            exact r_iret (pc := 129) dX2_preyByRanks_129 rfl ⟨congrArg (fun z => some (Value.int z)) ht, rfl⟩
  · have z7 : swS S c = 0 := Classical.byContradiction (fun z => h7 (nI_le (by omega) (by omega)))
    refine r_ldc (pc := 10) dX2_preyByRanks_10 lk_X2_81 ?_
    refine r_is (tgtS S n c) (tgt_0 (by rw [s1, z7]; rfl)).symm ?_
    exact r_iret (pc := 12) dX2_preyByRanks_12 rfl ⟨rfl, rfl⟩
set_option maxHeartbeats 4000000 in
set_option maxRecDepth 100000 in
theorem c_X2_preyOf_28 (l : Launch) (G : Gx) (M : Mem) (c : Nat) (S : Nat → Int32) (n : Nat) (hm : ms 28 n S M) (hR : Rg n S) (hc : c < n) : Con l G yX2_preyOf cX2_preyOf 2 (some .int) 2 44 [.ref (gA G 28), .int (nI c)] M (qI (tgtS S n c) (fr3 28 M)) := by
  refine Con.ofV [some (.ref (gA G 28)), some (.int (nI c))] RX2 (by decide) rfl (Nat.le_of_ble_eq_true rfl) rfl ?_
  intro κ hl hG hk0 hn0
  subst hl hG
  have hcs : κ.k ≤ 0 ∧ κ.n ≤ 0 := ⟨Nat.le_of_eq hk0, Nat.le_of_eq hn0⟩
  have hn6 := hR.1
  refine r_aload_n (pc := 0) dX2_preyOf_0 rfl ?_
  refine iv_X2_65 (c_X2_reckonRanks_28 _ _ _ _ _ (by assumption) (by assumption)) (pc := 1) dX2_preyOf_1 rfl ⟨Nat.le_of_ble_eq_true rfl, Nat.le_of_ble_eq_true rfl⟩ (Nat.le_of_ble_eq_true rfl) hcs (kqV (fun N1 r1 => ?_))
  refine r_aload_n (pc := 4) dX2_preyOf_4 rfl ?_
  refine r_iload_n (pc := 5) dX2_preyOf_5 rfl ?_
  refine iv_X2_68 (c_X2_preyByRanks_28 _ _ _ c S n hR hc (r1.1.ms hm).1 ((r1.1.ms hm).2.2.2.2.2 c hc).2.2.2.1 ((r1.1.ms hm).2.2.2.2.2 c hc).2.2.2.2.1 r1.2) (pc := 6) dX2_preyOf_6 rfl ⟨Nat.le_of_ble_eq_true rfl, Nat.le_of_ble_eq_true rfl⟩ (Nat.le_of_ble_eq_true rfl) hcs (kI ?_)
  exact r_iret (pc := 9) dX2_preyOf_9 rfl ⟨rfl, r1.1⟩
set_option maxHeartbeats 4000000 in
set_option maxRecDepth 100000 in
theorem c_X2_sawLeg_28 (l : Launch) (G : Gx) (M : Mem) (c b L x : Nat) (hc : c < 6) (hb : b ≤ 9) (hL : L ≤ 60) (eL : M 30 c = nI L) (hx : x = (if M 29 c = nI 4 ∨ M 29 c = nI 5 then b / 2 else b)) : Con l G yX2_sawLeg cX2_sawLeg 5 (some .boolean) 1 60 [.ref (gA G 28), .int (nI c), .int (nI b)] M (rI (bI (L - x < L)) (mset M 30 c (nI (L - x)))) := by
  refine Con.ofV [some (.ref (gA G 28)), some (.int (nI c)), some (.int (nI b)), none, none] RX2 (by decide) rfl (Nat.le_of_ble_eq_true rfl) rfl ?_
  intro κ hl hG hk0 hn0
  subst hl hG
  have hcs : κ.k ≤ 0 ∧ κ.n ≤ 0 := ⟨Nat.le_of_eq hk0, Nat.le_of_eq hn0⟩
  have hx9 : x ≤ 9 := by rw [hx]; split <;> omega
  have J25 : ∀ u : Int32, (u = 0 ↔ ¬ (M 29 c = nI 4 ∨ M 29 c = nI 5)) → V κ cX2_sawLeg RX2 5 (some .boolean) (rmx 1 60) (QM κ (rI (bI (L - x < L)) (mset M 30 c (nI (L - x))))) M 25 [some (.ref (gA κ.G 28)), some (.int (nI c)), some (.int (nI b)), none, none] [.int u] := by
    intro u hu
    refine r_st_n [_, _, _, _, _] (pc := 25) dX2_sawLeg_25 (by decide) rfl rfl ?_
    refine r_aload_n (pc := 26) dX2_sawLeg_26 rfl ?_
    refine gf_X2_15 (pc := 27) dX2_sawLeg_27 rfl ?_
    refine r_iload_n (pc := 30) dX2_sawLeg_30 rfl ?_
    refine r_iald (pc := 31) dX2_sawLeg_31 rfl (show _ < 6 by omega) ?_
    refine r_is (nI L) eL ?_
    refine r_st [_, _, _, _, _] (pc := 32) dX2_sawLeg_32 (by decide) rfl rfl ?_
    refine r_aload_n (pc := 34) dX2_sawLeg_34 rfl ?_
    refine gf_X2_15 (pc := 35) dX2_sawLeg_35 rfl ?_
    refine r_iload_n (pc := 38) dX2_sawLeg_38 rfl ?_
    refine r_iconst (v := nI 0) (pc := 39) dX2_sawLeg_39 (by decide) ?_
    refine r_iload (pc := 40) dX2_sawLeg_40 rfl ?_
    refine r_iload_n (pc := 42) dX2_sawLeg_42 rfl ?_
    refine r_if_eq (tgt := 52) (pc := 43) dX2_sawLeg_43 (by decide) (fun h43 => ?_) (fun h43 => ?_)
    · have ex : nI b = nI x := by rw [hx, if_neg (hu.mp h43)]
      refine r_iload_n (pc := 52) dX2_sawLeg_52 rfl ?_
      refine r_is (nI x) ex ?_
      refine r_isub (pc := 53) dX2_sawLeg_53 ?_
      refine r_max (pc := 54) dX2_sawLeg_54 wl_X2_90 w_maxS w_MathI w_maxC (Nat.le_of_ble_eq_true rfl) (Nat.le_of_ble_eq_true rfl) hcs.1 hcs.2 ?_
      refine r_is (nI (L - x)) (max_sub hL hx9) ?_
      refine r_iast (pc := 57) dX2_sawLeg_57 rfl (show _ < 6 by omega) ?_
      refine r_aload_n (pc := 58) dX2_sawLeg_58 rfl ?_
      refine gf_X2_15 (pc := 59) dX2_sawLeg_59 rfl ?_
      refine r_iload_n (pc := 62) dX2_sawLeg_62 rfl ?_
      refine r_iald (pc := 63) dX2_sawLeg_63 rfl (show _ < 6 by omega) ?_
      refine r_is (nI (L - x)) (by rw [mset_eq, pk_us]) ?_
      refine r_iload (pc := 64) dX2_sawLeg_64 rfl ?_
      refine r_icmp_ge (tgt := 73) (pc := 66) dX2_sawLeg_66 (by decide) (fun h66 => ?_) (fun h66 => ?_)
      · have hp : ¬ L - x < L := fun z => by have := (nI_leI (by omega) (by omega)).mp h66; omega
        refine r_iconst (v := nI 0) (pc := 73) dX2_sawLeg_73 (by decide) ?_
        exact r_zret (pc := 74) dX2_sawLeg_74 rfl (by first | rfl | exact bI_narrow) (by first | exact ⟨by rw [bI_t hp], rfl⟩ | exact ⟨by rw [bI_f hp], rfl⟩)
      · have hp : L - x < L := Nat.not_le.mp (fun z => h66 (nI_le z (by omega)))
        refine r_iconst (v := nI 1) (pc := 69) dX2_sawLeg_69 (by decide) ?_
        refine r_goto (tgt := 74) (pc := 70) dX2_sawLeg_70 (by decide) ?_
        exact r_zret (pc := 74) dX2_sawLeg_74 rfl (by first | rfl | exact bI_narrow) (by first | exact ⟨by rw [bI_t hp], rfl⟩ | exact ⟨by rw [bI_f hp], rfl⟩)
    · have ex : nI b / nI 2 = nI x := by rw [hx, if_pos (Classical.byContradiction (fun z => h43 (hu.mpr z))), nI_div2 _ (by omega)]
      refine r_iload_n (pc := 46) dX2_sawLeg_46 rfl ?_
      refine r_iconst (v := nI 2) (pc := 47) dX2_sawLeg_47 (by decide) ?_
      refine r_idiv (pc := 48) dX2_sawLeg_48 (by decide) ?_
      refine r_goto (tgt := 53) (pc := 49) dX2_sawLeg_49 (by decide) ?_
      refine r_is (nI x) ex ?_
      refine r_isub (pc := 53) dX2_sawLeg_53 ?_
      refine r_max (pc := 54) dX2_sawLeg_54 wl_X2_90 w_maxS w_MathI w_maxC (Nat.le_of_ble_eq_true rfl) (Nat.le_of_ble_eq_true rfl) hcs.1 hcs.2 ?_
      refine r_is (nI (L - x)) (max_sub hL hx9) ?_
      refine r_iast (pc := 57) dX2_sawLeg_57 rfl (show _ < 6 by omega) ?_
      refine r_aload_n (pc := 58) dX2_sawLeg_58 rfl ?_
      refine gf_X2_15 (pc := 59) dX2_sawLeg_59 rfl ?_
      refine r_iload_n (pc := 62) dX2_sawLeg_62 rfl ?_
      refine r_iald (pc := 63) dX2_sawLeg_63 rfl (show _ < 6 by omega) ?_
      refine r_is (nI (L - x)) (by rw [mset_eq, pk_us]) ?_
      refine r_iload (pc := 64) dX2_sawLeg_64 rfl ?_
      refine r_icmp_ge (tgt := 73) (pc := 66) dX2_sawLeg_66 (by decide) (fun h66 => ?_) (fun h66 => ?_)
      · have hp : ¬ L - x < L := fun z => by have := (nI_leI (by omega) (by omega)).mp h66; omega
        refine r_iconst (v := nI 0) (pc := 73) dX2_sawLeg_73 (by decide) ?_
        exact r_zret (pc := 74) dX2_sawLeg_74 rfl (by first | rfl | exact bI_narrow) (by first | exact ⟨by rw [bI_t hp], rfl⟩ | exact ⟨by rw [bI_f hp], rfl⟩)
      · have hp : L - x < L := Nat.not_le.mp (fun z => h66 (nI_le z (by omega)))
        refine r_iconst (v := nI 1) (pc := 69) dX2_sawLeg_69 (by decide) ?_
        refine r_goto (tgt := 74) (pc := 70) dX2_sawLeg_70 (by decide) ?_
        exact r_zret (pc := 74) dX2_sawLeg_74 rfl (by first | rfl | exact bI_narrow) (by first | exact ⟨by rw [bI_t hp], rfl⟩ | exact ⟨by rw [bI_f hp], rfl⟩)
  refine r_aload_n (pc := 0) dX2_sawLeg_0 rfl ?_
  refine gf_X2_9 (pc := 1) dX2_sawLeg_1 rfl ?_
  refine r_iload_n (pc := 4) dX2_sawLeg_4 rfl ?_
  refine r_iald (pc := 5) dX2_sawLeg_5 rfl (show _ < 6 by omega) ?_
  refine r_iconst (v := nI 4) (pc := 6) dX2_sawLeg_6 (by decide) ?_
  refine r_icmp_eq (tgt := 20) (pc := 7) dX2_sawLeg_7 (by decide) (fun h7 => ?_) (fun h7 => ?_)
  · refine r_iconst (v := nI 1) (pc := 20) dX2_sawLeg_20 (by decide) ?_
    refine r_goto (tgt := 25) (pc := 21) dX2_sawLeg_21 (by decide) ?_
    exact J25 _ ⟨fun z => absurd z (by decide), fun z => absurd (by first | exact Or.inl h7 | exact Or.inr h17) z⟩
  · refine r_aload_n (pc := 10) dX2_sawLeg_10 rfl ?_
    refine gf_X2_9 (pc := 11) dX2_sawLeg_11 rfl ?_
    refine r_iload_n (pc := 14) dX2_sawLeg_14 rfl ?_
    refine r_iald (pc := 15) dX2_sawLeg_15 rfl (show _ < 6 by omega) ?_
    refine r_iconst (v := nI 5) (pc := 16) dX2_sawLeg_16 (by decide) ?_
    refine r_icmp_ne (tgt := 24) (pc := 17) dX2_sawLeg_17 (by decide) (fun h17 => ?_) (fun h17 => ?_)
    · refine r_iconst (v := nI 0) (pc := 24) dX2_sawLeg_24 (by decide) ?_
      exact J25 _ ⟨fun _ z => z.elim h7 h17, fun _ => rfl⟩
    · refine r_iconst (v := nI 1) (pc := 20) dX2_sawLeg_20 (by decide) ?_
      refine r_goto (tgt := 25) (pc := 21) dX2_sawLeg_21 (by decide) ?_
      exact J25 _ ⟨fun z => absurd z (by decide), fun z => absurd (by first | exact Or.inl h7 | exact Or.inr h17) z⟩
set_option maxHeartbeats 4000000 in
set_option maxRecDepth 100000 in
theorem c_X2_passNight_28 (l : Launch) (G : Gx) (M : Mem) (S : Nat → Int32) (n : Nat) (hm : ms 28 n S M) (hR : Rg n S) (hn1 : 0 < n) : Con l G yX2_passNight cX2_passNight 4 (some .boolean) 2 84 [.ref (gA G 28)] M (qI (bI (¬ sumN (nightP S n) 11 n = sumN S 11 n)) (fun N5 => fro 28 M N5 ∧ ms 28 n (nightP S n) N5)) := by
  refine Con.ofV [some (.ref (gA G 28)), none, none, none] RX2 (by decide) rfl (Nat.le_of_ble_eq_true rfl) rfl ?_
  intro κ hl hG hk0 hn0
  subst hl hG
  have hcs : κ.k ≤ 0 ∧ κ.n ≤ 0 := ⟨Nat.le_of_eq hk0, Nat.le_of_eq hn0⟩
  have hn6 := hR.1
  obtain ⟨w, hw64, hw⟩ := hR.w
  refine r_aload_n (pc := 0) dX2_passNight_0 rfl ?_
  refine iv_X2_65 (c_X2_reckonRanks_28 _ _ _ _ _ (by assumption) (by assumption)) (pc := 1) dX2_passNight_1 rfl ⟨Nat.le_of_ble_eq_true rfl, Nat.le_of_ble_eq_true rfl⟩ (Nat.le_of_ble_eq_true rfl) hcs (kqV (fun N1 r1 => ?_))
  refine r_iconst (v := nI 0) (pc := 4) dX2_passNight_4 (by decide) ?_
  refine r_st_n [_, _, _, _] (pc := 5) dX2_passNight_5 (by decide) rfl rfl ?_
  refine r_iconst (v := nI 0) (pc := 6) dX2_passNight_6 (by decide) ?_
  refine r_st_n [_, _, _, _] (pc := 7) dX2_passNight_7 (by decide) rfl rfl ?_
  refine V.bk (loopV (fun (σ : Nat × Int32 × Mem) => V κ cX2_passNight RX2 4 (some .boolean) (rmx 2 84) (QM κ (qI (bI (¬ sumN (nightP S n) 11 n = sumN S 11 n)) (fun N5 => fro 28 M N5 ∧ ms 28 n (nightP S n) N5))) (σ.2.2) 8 [some (.ref (gA κ.G 28)), some (.int (σ.2.1)), some (.int (nI (σ.1))), none] []) (fun (σ : Nat × Int32 × Mem) => (σ.1) ≤ n ∧ ngI 28 n S M (σ.1) (σ.2.1) (σ.2.2)) (fun (σ : Nat × Int32 × Mem) => n - (σ.1)) ?_ (0, nI 0, N1) ⟨Nat.zero_le _, ngI_0 hm hR r1.1 r1.2⟩) rfl (by (repeat (first | exact wk_0 | refine wk_n ?_ | refine wk_s rfl ?_)); done)
  rintro ⟨s, u, N⟩ hI0 ih
  dsimp only at hI0 ih
  obtain ⟨hs, hI⟩ := hI0
  show V κ cX2_passNight RX2 4 (some .boolean) (rmx 2 84) (QM κ (qI (bI (¬ sumN (nightP S n) 11 n = sumN S 11 n)) (fun N5 => fro 28 M N5 ∧ ms 28 n (nightP S n) N5))) N 8 [some (.ref (gA κ.G 28)), some (.int u), some (.int (nI s)), none] []
  have J78 : ∀ (u2 : Int32) (K : Mem), s < n → ngI 28 n S M (s + 1) u2 K → V κ cX2_passNight RX2 4 (some .boolean) (rmx 2 84) (QM κ (qI (bI (¬ sumN (nightP S n) 11 n = sumN S 11 n)) (fun N5 => fro 28 M N5 ∧ ms 28 n (nightP S n) N5))) K 78 [some (.ref (gA κ.G 28)), some (.int u2), some (.int (nI s)), none] [] := by
    intro u2 K hsn hK
    first | refine r_inc [_, _, _, _] (pc := 78) dX2_passNight_78 rfl (nI_inc _) (by decide) rfl rfl ?_ | refine r_inc [_, _, _, _] (pc := 78) dX2_passNight_78 rfl rfl (by decide) rfl rfl ?_
    refine r_goto (tgt := 8) (pc := 81) dX2_passNight_81 (by decide) ?_
    exact V.bk (ih (s + 1, u2, K) ⟨by dsimp only; omega, hK⟩ (by dsimp only; omega)) rfl (by (repeat (first | exact wk_0 | refine wk_n ?_ | refine wk_s rfl ?_)); done)
  refine r_iload_n (pc := 8) dX2_passNight_8 rfl ?_
  refine r_aload_n (pc := 9) dX2_passNight_9 rfl ?_
  refine gf_X2_39 (pc := 10) dX2_passNight_10 rfl ?_
  refine r_is (nI n) (by first | exact hm.1 | exact (congrFun hI.2.1 0).trans hm.1) ?_
  refine r_icmp_ge (tgt := 84) (pc := 13) dX2_passNight_13 (by decide) (fun h13 => ?_) (fun h13 => ?_)
  · have h13 : n ≤ s := (nI_leI (by omega) (by omega)).mp h13
    obtain rfl : n = s := by omega
    obtain ⟨hu, hE⟩ := ngI_e hI hm hR hn1
    refine r_aload_n (pc := 84) dX2_passNight_84 rfl ?_
    refine r_dup (pc := 85) dX2_passNight_85 rfl ?_
    refine gf_X2_43 (pc := 86) dX2_passNight_86 rfl ?_
    refine r_iconst (v := nI 1) (pc := 89) dX2_passNight_89 (by decide) ?_
    first | with_reducible refine r_iaddN (pc := 90) dX2_passNight_90 ?_ | refine r_iadd (pc := 90) dX2_passNight_90 ?_
    refine pf_X2_43 (pc := 91) dX2_passNight_91 rfl ?_
    refine r_iload_n (pc := 94) dX2_passNight_94 rfl ?_
    refine r_is (bI (¬ sumN (nightP S n) 11 n = sumN S 11 n)) hu ?_
    exact r_zret (pc := 95) dX2_passNight_95 rfl (by first | rfl | exact bI_narrow) ⟨rfl, hE⟩
  · have h13 : s < n := Nat.not_le.mp (fun z => h13 ((nI_leI (by omega) (by omega)).mpr z))
    have e4 : N 32 s = S (17 + s) := by rw [(hI.2.2.2.1 s h13).2.2.2.1, if_neg (fun z => Nat.lt_irrefl _ z.1), sub0]
    obtain ⟨s1, s2⟩ := (hR.c h13).sw
    refine r_aload_n (pc := 16) dX2_passNight_16 rfl ?_
    refine r_iload_n (pc := 17) dX2_passNight_17 rfl ?_
    refine iv_X2_68 (c_X2_preyByRanks_28 _ _ _ s S n hR h13 ((congrFun hI.2.1 0).trans hm.1) e4 (hI.2.2.2.1 s h13).2.2.2.2.1 hI.2.2.1) (pc := 18) dX2_passNight_18 rfl ⟨Nat.le_of_ble_eq_true rfl, Nat.le_of_ble_eq_true rfl⟩ (Nat.le_of_ble_eq_true rfl) hcs (kI ?_)
    refine r_st_n [_, _, _, _] (pc := 21) dX2_passNight_21 (by decide) rfl rfl ?_
    refine r_iload_n (pc := 22) dX2_passNight_22 rfl ?_
    refine r_ldc (pc := 23) dX2_passNight_23 lk_X2_81 ?_
    refine r_icmp_ne (tgt := 31) (pc := 25) dX2_passNight_25 (by decide) (fun h25 => ?_) (fun h25 => ?_)
    · obtain ⟨d, hd, ht⟩ : ∃ d, d < n ∧ tgtS S n s = nI d := by
        rcases tgt_case (S := S) (c := s) hn1 hn6 with z | ⟨d, hd, e, -⟩
        · exact absurd z.1 h25
        · exact ⟨d, hd, e⟩
      refine V.bk (f' := [some (.ref (gA κ.G 28)), some (.int u), some (.int (nI s)), some (.int (nI d))]) ?_ rfl (by rw [ht]; (repeat (first | exact wk_0 | refine wk_n ?_ | refine wk_s rfl ?_)); done)
      refine r_aload_n (pc := 31) dX2_passNight_31 rfl ?_
      refine r_iload_n (pc := 32) dX2_passNight_32 rfl ?_
      refine iv_X2_82 (c_X2_isWatched_28 _ _ _ d w (by omega) ((congrFun hI.2.1 4).trans (hm.2.2.2.2.1.trans hw)) hw64) (pc := 33) dX2_passNight_33 rfl ⟨Nat.le_of_ble_eq_true rfl, Nat.le_of_ble_eq_true rfl⟩ (Nat.le_of_ble_eq_true rfl) hcs (kI ?_)
      refine r_ifeq_b (tgt := 62) (pc := 36) dX2_passNight_36 (by decide) (fun h36 => ?_) (fun h36 => ?_)
      · have hwd : ¬ hasB (S 4) (nI d) := by rw [hI.2.1, hm.2.2.2.2.1] at h36; exact h36
        refine r_aload_n (pc := 62) dX2_passNight_62 rfl ?_
        refine r_iload_n (pc := 63) dX2_passNight_63 rfl ?_
        refine r_aload_n (pc := 64) dX2_passNight_64 rfl ?_
        refine gf_X2_21 (pc := 65) dX2_passNight_65 rfl ?_
        refine r_iload_n (pc := 68) dX2_passNight_68 rfl ?_
        refine r_iald (pc := 69) dX2_passNight_69 rfl (show _ < 6 by omega) ?_
        refine r_is (nI (swS S s)) (e4.trans s1) ?_
        have ld := (hR.c hd).lg
        have hsx := (sawnS_n (c := d) (hR.c h13)).2
        refine iv_X2_86 (c_X2_sawLeg_28 _ _ _ d (swS S s) (lgS S d - oN S n s d) (sawA S s d) (by omega) s2 (by omega) (hI.2.2.2.1 d hd).2.1 (by unfold sawA; rw [(hI.2.2.2.1 d hd).1])) (pc := 70) dX2_passNight_70 rfl ⟨Nat.le_of_ble_eq_true rfl, Nat.le_of_ble_eq_true rfl⟩ (Nat.le_of_ble_eq_true rfl) hcs (kI ?_)
        refine r_ifeq_b (tgt := 78) (pc := 73) dX2_passNight_73 (by decide) (fun h73 => ?_) (fun h73 => ?_)
        · exact V.bk (J78 u (mset N 30 d (nI (lgS S d - oN S n s d - sawA S s d))) h13 (ngI_c (o := 28) hI hn6 hd ht hwd (Or.inr ⟨h73, rfl⟩))) rfl (by (repeat (first | exact wk_0 | refine wk_n ?_ | refine wk_s rfl ?_)); done)
        · refine r_iconst (v := nI 1) (pc := 76) dX2_passNight_76 (by decide) ?_
          refine r_st_n [_, _, _, _] (pc := 77) dX2_passNight_77 (by decide) rfl rfl ?_
          exact V.bk (J78 (nI 1) (mset N 30 d (nI (lgS S d - oN S n s d - sawA S s d))) h13 (ngI_c (o := 28) hI hn6 hd ht hwd (Or.inl ⟨h73, rfl⟩))) rfl (by (repeat (first | exact wk_0 | refine wk_n ?_ | refine wk_s rfl ?_)); done)
      · have hwd : hasB (S 4) (nI d) := by rw [hI.2.1, hm.2.2.2.2.1] at h36; exact h36
        refine r_aload_n (pc := 39) dX2_passNight_39 rfl ?_
        refine gf_X2_27 (pc := 40) dX2_passNight_40 rfl ?_
        refine r_iload_n (pc := 43) dX2_passNight_43 rfl ?_
        refine r_dup2 (pc := 44) dX2_passNight_44 rfl rfl ?_
        refine r_iald (pc := 45) dX2_passNight_45 rfl (show _ < 6 by omega) ?_
        refine r_iconst (v := nI 1) (pc := 46) dX2_passNight_46 (by decide) ?_
        first | with_reducible refine r_iaddN (pc := 47) dX2_passNight_47 ?_ | refine r_iadd (pc := 47) dX2_passNight_47 ?_
        refine r_iast (pc := 48) dX2_passNight_48 rfl (show _ < 6 by omega) ?_
        refine r_aload_n (pc := 49) dX2_passNight_49 rfl ?_
        refine gf_X2_21 (pc := 50) dX2_passNight_50 rfl ?_
        refine r_iload_n (pc := 53) dX2_passNight_53 rfl ?_
        refine r_dup2 (pc := 54) dX2_passNight_54 rfl rfl ?_
        refine r_iald (pc := 55) dX2_passNight_55 rfl (show _ < 6 by omega) ?_
        refine r_iconst (v := nI 1) (pc := 56) dX2_passNight_56 (by decide) ?_
        first | (with_reducible refine r_isubN (pc := 57) dX2_passNight_57 ?hle ?_; case hle => omega) | refine r_isub (pc := 57) dX2_passNight_57 ?_
        refine r_iast (pc := 58) dX2_passNight_58 rfl (show _ < 6 by omega) ?_
        refine r_goto (tgt := 78) (pc := 59) dX2_passNight_59 (by decide) ?_
        exact V.bk (J78 u (mset (mset N 34 s (N 34 s + nI 1)) 32 s (N 32 s - nI 1)) h13 (ngI_b (o := 28) hI hn6 h13 hd ht hwd)) rfl (by (repeat (first | exact wk_0 | refine wk_n ?_ | refine wk_s rfl ?_)); done)
    · refine r_goto (tgt := 78) (pc := 28) dX2_passNight_28 (by decide) ?_
      exact V.bk (J78 _ _ h13 (ngI_a hI hn6 h25)) rfl (by (repeat (first | exact wk_0 | refine wk_n ?_ | refine wk_s rfl ?_)); done)
set_option maxHeartbeats 4000000 in
set_option maxRecDepth 100000 in
theorem c_X2_passNights_28 (l : Launch) (G : Gx) (M : Mem) (m : Nat) (hm60 : m ≤ 60) (S : Nat → Int32) (n : Nat) (hm : ms 28 n S M) (hR : Rg n S) (hn1 : 0 < n) : Con l G yX2_passNights cX2_passNights 3 none 3 107 [.ref (gA G 28), .int (nI m)] M (qV (fun N5 => fro 28 M N5 ∧ ∃ T, ms 28 n T N5 ∧ Rg n T ∧ sk n T (goP S n m))) := by
  refine Con.ofV [some (.ref (gA G 28)), some (.int (nI m)), none] RX2 (by decide) rfl (Nat.le_of_ble_eq_true rfl) rfl ?_
  intro κ hl hG hk0 hn0
  subst hl hG
  have hcs : κ.k ≤ 0 ∧ κ.n ≤ 0 := ⟨Nat.le_of_eq hk0, Nat.le_of_eq hn0⟩
  have hn6 := hR.1
  refine r_iconst (v := nI 0) (pc := 0) dX2_passNights_0 (by decide) ?_
  refine r_st_n [_, _, _] (pc := 1) dX2_passNights_1 (by decide) rfl rfl ?_
  refine V.bk (loopV (fun (σ : Nat × Mem) => V κ cX2_passNights RX2 3 none (rmx 3 107) (QM κ (qV (fun N5 => fro 28 M N5 ∧ ∃ T, ms 28 n T N5 ∧ Rg n T ∧ sk n T (goP S n m)))) (σ.2) 2 [some (.ref (gA κ.G 28)), some (.int (nI m)), some (.int (nI (σ.1)))] []) (fun (σ : Nat × Mem) => (σ.1) ≤ m ∧ fro 28 M (σ.2) ∧ ms 28 n (goP S n (σ.1)) (σ.2)) (fun (σ : Nat × Mem) => m - (σ.1)) ?_ (0, M) ⟨Nat.zero_le _, fro.refl _ _, hm⟩) rfl (by (repeat (first | exact wk_0 | refine wk_n ?_ | refine wk_s rfl ?_)); done)
  rintro ⟨j, N⟩ hI0 ih
  dsimp only at hI0 ih
  obtain ⟨hj, hf, hmj⟩ := hI0
  show V κ cX2_passNights RX2 3 none (rmx 3 107) (QM κ (qV (fun N5 => fro 28 M N5 ∧ ∃ T, ms 28 n T N5 ∧ Rg n T ∧ sk n T (goP S n m)))) N 2 [some (.ref (gA κ.G 28)), some (.int (nI m)), some (.int (nI j))] []
  refine r_iload_n (pc := 2) dX2_passNights_2 rfl ?_
  refine r_iload_n (pc := 3) dX2_passNights_3 rfl ?_
  refine r_icmp_ge (tgt := 21) (pc := 4) dX2_passNights_4 (by decide) (fun h4 => ?_) (fun h4 => ?_)
  · have h4 : m ≤ j := (nI_leI (by omega) (by omega)).mp h4
    obtain rfl : m = j := by omega
    exact r_vret (pc := 21) dX2_passNights_21 rfl ⟨rfl, hf, goP S n m, hmj, hR.go hn1 m, sk.refl _ _⟩
  · have h4 : j < m := Nat.not_le.mp (fun z => h4 ((nI_leI (by omega) (by omega)).mpr z))
    refine r_aload_n (pc := 7) dX2_passNights_7 rfl ?_
    refine iv_X2_93 (c_X2_passNight_28 _ _ _ (goP S n j) n hmj (hR.go hn1 j) hn1) (pc := 8) dX2_passNights_8 rfl ⟨Nat.le_of_ble_eq_true rfl, Nat.le_of_ble_eq_true rfl⟩ (Nat.le_of_ble_eq_true rfl) hcs (kqI (fun N8 r8 => ?_))
    refine r_ifne_b (tgt := 15) (pc := 11) dX2_passNights_11 (by decide) (fun h11 => ?_) (fun h11 => ?_)
    · first | refine r_inc [_, _, _] (pc := 15) dX2_passNights_15 rfl (nI_inc _) (by decide) rfl rfl ?_ | refine r_inc [_, _, _] (pc := 15) dX2_passNights_15 rfl rfl (by decide) rfl rfl ?_
      refine r_goto (tgt := 2) (pc := 18) dX2_passNights_18 (by decide) ?_
      exact V.bk (ih (j + 1, N8) ⟨by dsimp only; omega, hf.trans r8.1, r8.2⟩ (by dsimp only; omega)) rfl (by (repeat (first | exact wk_0 | refine wk_n ?_ | refine wk_s rfl ?_)); done)
    · exact r_vret (pc := 14) dX2_passNights_14 rfl ⟨rfl, hf.trans r8.1, goP S n (j + 1), r8.2, hR.go hn1 (j + 1), ((still.far ((still_sum (hR.go hn1 j) hn1).mp (Decidable.of_not_not h11)) hR hn1 (Nat.le_succ j)).trans (still.far ((still_sum (hR.go hn1 j) hn1).mp (Decidable.of_not_not h11)) hR hn1 (show j ≤ m by omega)).symm)⟩
