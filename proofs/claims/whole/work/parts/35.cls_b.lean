set_option maxHeartbeats 4000000 in
set_option maxRecDepth 100000 in
theorem c_X5_chair (l : Launch) (G : Gx) (M : Mem) (x y : Int32) (S : Nat → Int32) (n : Nat) (hm : ms 18 n S M) (hR : Rg n S) : Con l G yX5_chair cX5_chair 3 (some .int) 3 65 [.ref (gA G 14), .int x, .int y] M (fun v M' => (¬ (chG n x ∧ rgG 0 8 y) ∧ rI cBad M v M') ∨ (∃ k q, k < n ∧ q ≤ 8 ∧ x = nI k ∧ y = nI q ∧ qI (chairV S n k q) (fpc M) v M')) := by
  refine Con.ofV [some (.ref (gA G 14)), some (.int x), some (.int y)] RX5 (by decide) rfl (Nat.le_of_ble_eq_true rfl) rfl ?_
  intro κ hl hG hk0 hn0
  subst hl hG
  have hcs : κ.k ≤ 0 ∧ κ.n ≤ 0 := ⟨Nat.le_of_eq hk0, Nat.le_of_eq hn0⟩
  generalize hPP : (fun v M' => (¬ (chG n x ∧ rgG 0 8 y) ∧ rI cBad M v M') ∨ (∃ k q, k < n ∧ q ≤ 8 ∧ x = nI k ∧ y = nI q ∧ qI (chairV S n k q) (fpc M) v M')) = PP
  have hn := hm.1
  have hn6 := hR.1
  obtain ⟨w, hw64, hw⟩ := hR.w
  refine r_aload_n (pc := 0) dX5_chair_0 rfl ?_
  refine r_iload_n (pc := 1) dX5_chair_1 rfl ?_
  refine iv_X5_165 (c_X5_isChair _ _ _ _) (pc := 2) dX5_chair_2 rfl ⟨Nat.le_of_ble_eq_true rfl, Nat.le_of_ble_eq_true rfl⟩ (Nat.le_of_ble_eq_true rfl) hcs (kI ?_)
  refine r_ifne_b (tgt := 11) (pc := 5) dX5_chair_5 (by decide) (fun h5 => ?_) (fun h5 => ?_)
  · obtain ⟨k, hk, rfl⟩ := ch_mp hn hn6 h5
    refine r_iload_n (pc := 11) dX5_chair_11 rfl ?_
    refine r_tsw (lo := 0) (hi := 8) (tgt := 158) (pc := 12) dX5_chair_12 (by decide) (fun h12 => ?_) (fun q12 a12 b12 h12 => ?_)
    · have g12 : ¬ rgG 0 8 y := by rintro ⟨q, h1, h2, h3⟩; exact h12 q h1 h2 (by omega) h3
      refine r_ldc (pc := 158) dX5_chair_158 lk_X5_67 ?_
      exact r_iret (pc := 160) dX5_chair_160 rfl (by subst hPP; exact (Or.inl ⟨by first | exact fun z => g12 z.2, rfl, rfl⟩))
    · rcases (show q12 = 0 ∨ q12 = 1 ∨ q12 = 2 ∨ q12 = 3 ∨ q12 = 4 ∨ q12 = 5 ∨ q12 = 6 ∨ q12 = 7 ∨ q12 = 8 by omega) with rfl | rfl | rfl | rfl | rfl | rfl | rfl | rfl | rfl
      · refine r_tableIn (off := 52) (tgt := 64) (pc := 12) dX5_chair_12 (by decide) (by decide) rfl (by decide) ?_
        refine r_aload_n (pc := 64) dX5_chair_64 rfl ?_
        refine gf_X5_25 (pc := 65) dX5_chair_65 rfl ?_
        refine gf_X5_171 (pc := 68) dX5_chair_68 rfl ?_
        refine r_iload_n (pc := 71) dX5_chair_71 rfl ?_
        refine r_iald (pc := 72) dX5_chair_72 rfl (show _ < 6 by omega) ?_
        refine r_is (S (11 + k)) (hm.2.2.2.2.2 k hk).2.1 ?_
        exact r_iret (pc := 73) dX5_chair_73 rfl (by subst hPP; exact (Or.inr ⟨k, 0, hk, by omega, rfl, h12, rfl, fpc.refl _⟩))
      · refine r_tableIn (off := 62) (tgt := 74) (pc := 12) dX5_chair_12 (by decide) (by decide) rfl (by decide) ?_
        refine r_aload_n (pc := 74) dX5_chair_74 rfl ?_
        refine gf_X5_25 (pc := 75) dX5_chair_75 rfl ?_
        refine gf_X5_168 (pc := 78) dX5_chair_78 rfl ?_
        refine r_iload_n (pc := 81) dX5_chair_81 rfl ?_
        refine r_iald (pc := 82) dX5_chair_82 rfl (show _ < 6 by omega) ?_
        refine r_is (S (29 + k)) (hm.2.2.2.2.2 k hk).2.2.1 ?_
        exact r_iret (pc := 83) dX5_chair_83 rfl (by subst hPP; exact (Or.inr ⟨k, 1, hk, by omega, rfl, h12, rfl, fpc.refl _⟩))
      · refine r_tableIn (off := 72) (tgt := 84) (pc := 12) dX5_chair_12 (by decide) (by decide) rfl (by decide) ?_
        refine r_aload_n (pc := 84) dX5_chair_84 rfl ?_
        refine gf_X5_25 (pc := 85) dX5_chair_85 rfl ?_
        refine r_iload_n (pc := 88) dX5_chair_88 rfl ?_
        refine iv_X5_201 (c_X2_highOf_18 _ _ _ k S n hm hR hk) (pc := 89) dX5_chair_89 rfl ⟨Nat.le_of_ble_eq_true rfl, Nat.le_of_ble_eq_true rfl⟩ (Nat.le_of_ble_eq_true rfl) hcs (kI ?_)
        exact r_iret (pc := 92) dX5_chair_92 rfl (by subst hPP; exact (Or.inr ⟨k, 2, hk, by omega, rfl, h12, rfl, fpc.refl _⟩))
      · refine r_tableIn (off := 81) (tgt := 93) (pc := 12) dX5_chair_12 (by decide) (by decide) rfl (by decide) ?_
        refine r_aload_n (pc := 93) dX5_chair_93 rfl ?_
        refine gf_X5_25 (pc := 94) dX5_chair_94 rfl ?_
        refine r_iload_n (pc := 97) dX5_chair_97 rfl ?_
        refine iv_X5_204 (c_X2_rankOf_18 _ _ _ k S n hm hR hk) (pc := 98) dX5_chair_98 rfl ⟨Nat.le_of_ble_eq_true rfl, Nat.le_of_ble_eq_true rfl⟩ (Nat.le_of_ble_eq_true rfl) hcs (kqI (fun N98 r98 => ?_))
        exact r_iret (pc := 101) dX5_chair_101 rfl (by subst hPP; exact (Or.inr ⟨k, 3, hk, by omega, rfl, h12, rfl, r98.fpn⟩))
      · refine r_tableIn (off := 90) (tgt := 102) (pc := 12) dX5_chair_12 (by decide) (by decide) rfl (by decide) ?_
        refine r_aload_n (pc := 102) dX5_chair_102 rfl ?_
        refine gf_X5_25 (pc := 103) dX5_chair_103 rfl ?_
        refine r_iload_n (pc := 106) dX5_chair_106 rfl ?_
        refine iv_X5_178 (c_X2_isWatched_18 _ _ _ k w (by omega) (hm.2.2.2.2.1.trans hw) hw64) (pc := 107) dX5_chair_107 rfl ⟨Nat.le_of_ble_eq_true rfl, Nat.le_of_ble_eq_true rfl⟩ (Nat.le_of_ble_eq_true rfl) hcs (kI ?_)
        refine t_ifeq_b (tgt := 117) (J := 118) (a := ?pA110x1) (b := ?pB110x1) (pc := 110) dX5_chair_110 (by decide) (fun k110x1 => ?pT110x1) (fun k110x1 => ?pF110x1) ?pK110x1
        case pT110x1 =>
          refine r_iconst (v := nI 0) (pc := 117) dX5_chair_117 (by decide) ?_
          exact k110x1
        case pF110x1 =>
          refine r_iconst (v := nI 1) (pc := 113) dX5_chair_113 (by decide) ?_
          refine r_goto (tgt := 118) (pc := 114) dX5_chair_114 (by decide) ?_
          exact k110x1
        case pK110x1 =>
          refine r_is (chairV S n k 4) (by rw [hm.2.2.2.2.1]; rfl) ?_
          exact r_iret (pc := 118) dX5_chair_118 rfl (by subst hPP; exact (Or.inr ⟨k, 4, hk, by omega, rfl, h12, rfl, fpc.refl _⟩))
      · refine r_tableIn (off := 107) (tgt := 119) (pc := 12) dX5_chair_12 (by decide) (by decide) rfl (by decide) ?_
        refine r_aload_n (pc := 119) dX5_chair_119 rfl ?_
        refine gf_X5_25 (pc := 120) dX5_chair_120 rfl ?_
        refine gf_X5_198 (pc := 123) dX5_chair_123 rfl ?_
        refine r_iload_n (pc := 126) dX5_chair_126 rfl ?_
        refine r_iald (pc := 127) dX5_chair_127 rfl (show _ < 6 by omega) ?_
        refine r_is (S (17 + k)) (hm.2.2.2.2.2 k hk).2.2.2.1 ?_
        exact r_iret (pc := 128) dX5_chair_128 rfl (by subst hPP; exact (Or.inr ⟨k, 5, hk, by omega, rfl, h12, rfl, fpc.refl _⟩))
      · refine r_tableIn (off := 117) (tgt := 129) (pc := 12) dX5_chair_12 (by decide) (by decide) rfl (by decide) ?_
        refine r_aload_n (pc := 129) dX5_chair_129 rfl ?_
        refine gf_X5_25 (pc := 130) dX5_chair_130 rfl ?_
        refine gf_X5_207 (pc := 133) dX5_chair_133 rfl ?_
        refine r_iload_n (pc := 136) dX5_chair_136 rfl ?_
        refine r_iald (pc := 137) dX5_chair_137 rfl (show _ < 6 by omega) ?_
        refine r_is (S (23 + k)) (hm.2.2.2.2.2 k hk).2.2.2.2.1 ?_
        exact r_iret (pc := 138) dX5_chair_138 rfl (by subst hPP; exact (Or.inr ⟨k, 6, hk, by omega, rfl, h12, rfl, fpc.refl _⟩))
      · refine r_tableIn (off := 127) (tgt := 139) (pc := 12) dX5_chair_12 (by decide) (by decide) rfl (by decide) ?_
        refine r_aload_n (pc := 139) dX5_chair_139 rfl ?_
        refine gf_X5_25 (pc := 140) dX5_chair_140 rfl ?_
        refine r_iload_n (pc := 143) dX5_chair_143 rfl ?_
        refine iv_X5_195 (c_X2_preyOf_18 _ _ _ k S n hm hR hk) (pc := 144) dX5_chair_144 rfl ⟨Nat.le_of_ble_eq_true rfl, Nat.le_of_ble_eq_true rfl⟩ (Nat.le_of_ble_eq_true rfl) hcs (kqI (fun N144 r144 => ?_))
        exact r_iret (pc := 147) dX5_chair_147 rfl (by subst hPP; exact (Or.inr ⟨k, 7, hk, by omega, rfl, h12, rfl, r144.fpn⟩))
      · refine r_tableIn (off := 136) (tgt := 148) (pc := 12) dX5_chair_12 (by decide) (by decide) rfl (by decide) ?_
        refine r_aload_n (pc := 148) dX5_chair_148 rfl ?_
        refine gf_X5_25 (pc := 149) dX5_chair_149 rfl ?_
        refine gf_X5_210 (pc := 152) dX5_chair_152 rfl ?_
        refine r_iload_n (pc := 155) dX5_chair_155 rfl ?_
        refine r_iald (pc := 156) dX5_chair_156 rfl (show _ < 6 by omega) ?_
        refine r_is (S (35 + k)) (hm.2.2.2.2.2 k hk).2.2.2.2.2 ?_
        exact r_iret (pc := 157) dX5_chair_157 rfl (by subst hPP; exact (Or.inr ⟨k, 8, hk, by omega, rfl, h12, rfl, fpc.refl _⟩))
  · have g5 : ¬ chG n x := fun z => h5 (ch_mpr hn hn6 z)
    refine r_ldc (pc := 8) dX5_chair_8 lk_X5_67 ?_
    exact r_iret (pc := 10) dX5_chair_10 rfl (by subst hPP; exact (Or.inl ⟨by first | exact fun z => g5 z.1, rfl, rfl⟩))
set_option maxHeartbeats 4000000 in
set_option maxRecDepth 100000 in
theorem c_X5_ranked (l : Launch) (G : Gx) (M : Mem) (x : Int32) (S : Nat → Int32) (n : Nat) (hm : ms 18 n S M) (hR : Rg n S) : Con l G yX5_ranked cX5_ranked 2 (some .int) 3 65 [.ref (gA G 14), .int x] M (fun v M' => (¬ (chG n x) ∧ rI cBad M v M') ∨ (∃ k, k < n ∧ x = nI k ∧ qI (atN S n (nI k) n) (fpc M) v M')) := by
  refine Con.ofV [some (.ref (gA G 14)), some (.int x)] RX5 (by decide) rfl (Nat.le_of_ble_eq_true rfl) rfl ?_
  intro κ hl hG hk0 hn0
  subst hl hG
  have hcs : κ.k ≤ 0 ∧ κ.n ≤ 0 := ⟨Nat.le_of_eq hk0, Nat.le_of_eq hn0⟩
  generalize hPP : (fun v M' => (¬ (chG n x) ∧ rI cBad M v M') ∨ (∃ k, k < n ∧ x = nI k ∧ qI (atN S n (nI k) n) (fpc M) v M')) = PP
  have hn := hm.1
  have hn6 := hR.1
  refine r_aload_n (pc := 0) dX5_ranked_0 rfl ?_
  refine r_iload_n (pc := 1) dX5_ranked_1 rfl ?_
  refine iv_X5_165 (c_X5_isChair _ _ _ _) (pc := 2) dX5_ranked_2 rfl ⟨Nat.le_of_ble_eq_true rfl, Nat.le_of_ble_eq_true rfl⟩ (Nat.le_of_ble_eq_true rfl) hcs (kI ?_)
  refine r_ifeq_b (tgt := 19) (pc := 5) dX5_ranked_5 (by decide) (fun h5 => ?_) (fun h5 => ?_)
  · have g5 : ¬ chG n x := fun z => h5 (ch_mpr hn hn6 z)
    refine r_ldc (pc := 19) dX5_ranked_19 lk_X5_67 ?_
    exact r_iret (pc := 21) dX5_ranked_21 rfl (by subst hPP; exact (by first | exact Or.inr ⟨k, hk, rfl, rfl, r13.fpn⟩ | exact Or.inl ⟨g5, rfl, rfl⟩))
  · obtain ⟨k, hk, rfl⟩ := ch_mp hn hn6 h5
    refine r_aload_n (pc := 8) dX5_ranked_8 rfl ?_
    refine gf_X5_25 (pc := 9) dX5_ranked_9 rfl ?_
    refine r_iload_n (pc := 12) dX5_ranked_12 rfl ?_
    refine iv_X5_162 (c_X2_atRank_18 _ _ _ k S n hm hR hk) (pc := 13) dX5_ranked_13 rfl ⟨Nat.le_of_ble_eq_true rfl, Nat.le_of_ble_eq_true rfl⟩ (Nat.le_of_ble_eq_true rfl) hcs (kqI (fun N13 r13 => ?_))
    refine r_goto (tgt := 21) (pc := 16) dX5_ranked_16 (by decide) ?_
    exact r_iret (pc := 21) dX5_ranked_21 rfl (by subst hPP; exact (by first | exact Or.inr ⟨k, hk, rfl, rfl, r13.fpn⟩ | exact Or.inl ⟨g5, rfl, rfl⟩))
set_option maxHeartbeats 4000000 in
set_option maxRecDepth 100000 in
theorem c_X5_kind (l : Launch) (G : Gx) (M : Mem) (x : Int32) (S : Nat → Int32) (n : Nat) (hm : ms 18 n S M) (hR : Rg n S) : Con l G yX5_kind cX5_kind 2 (some .int) 2 43 [.ref (gA G 14), .int x] M (fun v M' => (¬ (chG n x) ∧ rI cBad M v M') ∨ (∃ k, k < n ∧ x = nI k ∧ rI (S (5 + k)) M v M')) := by
  refine Con.ofV [some (.ref (gA G 14)), some (.int x)] RX5 (by decide) rfl (Nat.le_of_ble_eq_true rfl) rfl ?_
  intro κ hl hG hk0 hn0
  subst hl hG
  have hcs : κ.k ≤ 0 ∧ κ.n ≤ 0 := ⟨Nat.le_of_eq hk0, Nat.le_of_eq hn0⟩
  generalize hPP : (fun v M' => (¬ (chG n x) ∧ rI cBad M v M') ∨ (∃ k, k < n ∧ x = nI k ∧ rI (S (5 + k)) M v M')) = PP
  have hn := hm.1
  have hn6 := hR.1
  refine r_aload_n (pc := 0) dX5_kind_0 rfl ?_
  refine r_iload_n (pc := 1) dX5_kind_1 rfl ?_
  refine iv_X5_165 (c_X5_isChair _ _ _ _) (pc := 2) dX5_kind_2 rfl ⟨Nat.le_of_ble_eq_true rfl, Nat.le_of_ble_eq_true rfl⟩ (Nat.le_of_ble_eq_true rfl) hcs (kI ?_)
  refine r_ifeq_b (tgt := 20) (pc := 5) dX5_kind_5 (by decide) (fun h5 => ?_) (fun h5 => ?_)
  · have g5 : ¬ chG n x := fun z => h5 (ch_mpr hn hn6 z)
    refine r_ldc (pc := 20) dX5_kind_20 lk_X5_67 ?_
    exact r_iret (pc := 22) dX5_kind_22 rfl (by subst hPP; exact (by first | exact Or.inr ⟨k, hk, rfl, congrArg (fun z => some (Value.int z)) (hm.2.2.2.2.2 k hk).1, rfl⟩ | exact Or.inl ⟨g5, rfl, rfl⟩))
  · obtain ⟨k, hk, rfl⟩ := ch_mp hn hn6 h5
    refine r_aload_n (pc := 8) dX5_kind_8 rfl ?_
    refine gf_X5_25 (pc := 9) dX5_kind_9 rfl ?_
    refine gf_X5_278 (pc := 12) dX5_kind_12 rfl ?_
    refine r_iload_n (pc := 15) dX5_kind_15 rfl ?_
    refine r_iald (pc := 16) dX5_kind_16 rfl (show _ < 6 by omega) ?_
    refine r_goto (tgt := 22) (pc := 17) dX5_kind_17 (by decide) ?_
    exact r_iret (pc := 22) dX5_kind_22 rfl (by subst hPP; exact (by first | exact Or.inr ⟨k, hk, rfl, congrArg (fun z => some (Value.int z)) (hm.2.2.2.2.2 k hk).1, rfl⟩ | exact Or.inl ⟨g5, rfl, rfl⟩))
set_option maxHeartbeats 4000000 in
set_option maxRecDepth 100000 in
theorem c_X5_ahead (l : Launch) (G : Gx) (M : Mem) (x y z : Int32) (S : Nat → Int32) (n : Nat) (hm : ms 18 n S M) (hR : Rg n S) : Con l G yX5_ahead cX5_ahead 4 (some .int) 4 129 [.ref (gA G 14), .int x, .int y, .int z] M (fun v M' => (¬ (chG n x ∧ rgG 0 60 y ∧ rgG 0 2 z) ∧ rI cBad M v M') ∨ (∃ k q p, k < n ∧ q ≤ 60 ∧ p ≤ 2 ∧ x = nI k ∧ y = nI q ∧ z = nI p ∧ qI (aheadV (goP S n q) n k p) (fpc M) v M')) := by
  refine Con.ofV [some (.ref (gA G 14)), some (.int x), some (.int y), some (.int z)] RX5 (by decide) rfl (Nat.le_of_ble_eq_true rfl) rfl ?_
  intro κ hl hG hk0 hn0
  subst hl hG
  have hcs : κ.k ≤ 0 ∧ κ.n ≤ 0 := ⟨Nat.le_of_eq hk0, Nat.le_of_eq hn0⟩
  generalize hPP : (fun v M' => (¬ (chG n x ∧ rgG 0 60 y ∧ rgG 0 2 z) ∧ rI cBad M v M') ∨ (∃ k q p, k < n ∧ q ≤ 60 ∧ p ≤ 2 ∧ x = nI k ∧ y = nI q ∧ z = nI p ∧ qI (aheadV (goP S n q) n k p) (fpc M) v M')) = PP
  have hn := hm.1
  have hn6 := hR.1
  refine r_aload_n (pc := 0) dX5_ahead_0 rfl ?_
  refine r_iload_n (pc := 1) dX5_ahead_1 rfl ?_
  refine iv_X5_165 (c_X5_isChair _ _ _ _) (pc := 2) dX5_ahead_2 rfl ⟨Nat.le_of_ble_eq_true rfl, Nat.le_of_ble_eq_true rfl⟩ (Nat.le_of_ble_eq_true rfl) hcs (kI ?_)
  refine r_ifeq_b (tgt := 27) (pc := 5) dX5_ahead_5 (by decide) (fun h5 => ?_) (fun h5 => ?_)
  · have g5 : ¬ chG n x := fun z => h5 (ch_mpr hn hn6 z)
    refine r_ldc (pc := 27) dX5_ahead_27 lk_X5_67 ?_
    exact r_iret (pc := 29) dX5_ahead_29 rfl (by subst hPP; exact (Or.inl ⟨by first | exact fun z => g5 z.1 | exact fun z => g15 z.2.1 | exact fun z => g24 z.2.2, rfl, rfl⟩))
  · obtain ⟨k, hk, rfl⟩ := ch_mp hn hn6 h5
    refine r_iload_n (pc := 8) dX5_ahead_8 rfl ?_
    refine r_iconst (v := nI 0) (pc := 9) dX5_ahead_9 (by decide) ?_
    refine r_bipush (v := nI 60) (pc := 10) dX5_ahead_10 (by decide) ?_
    refine iv_X5_63 (c_X5_within _ _ _ _ _ _) (pc := 12) dX5_ahead_12 ⟨Nat.le_of_ble_eq_true rfl, Nat.le_of_ble_eq_true rfl⟩ (Nat.le_of_ble_eq_true rfl) hcs (kI ?_)
    refine r_ifeq_b (tgt := 27) (pc := 15) dX5_ahead_15 (by decide) (fun h15 => ?_) (fun h15 => ?_)
    · have g15 : ¬ rgG 0 60 y := fun z => h15 (rg_mpr z (by omega))
      refine r_ldc (pc := 27) dX5_ahead_27 lk_X5_67 ?_
      exact r_iret (pc := 29) dX5_ahead_29 rfl (by subst hPP; exact (Or.inl ⟨by first | exact fun z => g5 z.1 | exact fun z => g15 z.2.1 | exact fun z => g24 z.2.2, rfl, rfl⟩))
    · obtain ⟨q, hqa, hqb, rfl⟩ := rg_mp (a := 0) (b := 60) h15 (by omega) (by omega)
      refine r_iload_n (pc := 18) dX5_ahead_18 rfl ?_
      refine r_iconst (v := nI 0) (pc := 19) dX5_ahead_19 (by decide) ?_
      refine r_iconst (v := nI 2) (pc := 20) dX5_ahead_20 (by decide) ?_
      refine iv_X5_63 (c_X5_within _ _ _ _ _ _) (pc := 21) dX5_ahead_21 ⟨Nat.le_of_ble_eq_true rfl, Nat.le_of_ble_eq_true rfl⟩ (Nat.le_of_ble_eq_true rfl) hcs (kI ?_)
      refine r_ifne_b (tgt := 30) (pc := 24) dX5_ahead_24 (by decide) (fun h24 => ?_) (fun h24 => ?_)
      · obtain ⟨p, hpa, hpb, rfl⟩ := rg_mp (a := 0) (b := 2) h24 (by omega) (by omega)
        refine r_aload_n (pc := 30) dX5_ahead_30 rfl ?_
        refine iv_X5_213 (c_X5_foresee _ _ _ _ _ (by assumption) (by assumption)) (pc := 31) dX5_ahead_31 rfl ⟨Nat.le_of_ble_eq_true rfl, Nat.le_of_ble_eq_true rfl⟩ (Nat.le_of_ble_eq_true rfl) hcs (kqV (fun N31 r31 => ?_))
        refine r_aload_n (pc := 34) dX5_ahead_34 rfl ?_
        refine gf_X5_29 (pc := 35) dX5_ahead_35 rfl ?_
        refine r_iload_n (pc := 38) dX5_ahead_38 rfl ?_
        refine iv_X5_216 (c_X2_passNights_28 _ _ _ q (by omega) S n r31.2 hR (by omega)) (pc := 39) dX5_ahead_39 rfl ⟨Nat.le_of_ble_eq_true rfl, Nat.le_of_ble_eq_true rfl⟩ (Nat.le_of_ble_eq_true rfl) hcs (kqV (fun N39 r39 => ?_))
        obtain ⟨f39, T, t1, t2, t3⟩ := r39
        have ff := r31.1.trans f39.fpp
        refine r_iload_n (pc := 42) dX5_ahead_42 rfl ?_
        refine r_if_ne (tgt := 55) (pc := 43) dX5_ahead_43 (by decide) (fun h43 => ?_) (fun h43 => ?_)
        · have h43 : p ≠ 0 := fun z => h43 (by rw [z]; rfl)
          refine r_iload_n (pc := 55) dX5_ahead_55 rfl ?_
          refine r_iconst (v := nI 1) (pc := 56) dX5_ahead_56 (by decide) ?_
          refine r_icmp_ne (tgt := 71) (pc := 57) dX5_ahead_57 (by decide) (fun h57 => ?_) (fun h57 => ?_)
          · have h57 : p ≠ 1 := fun z => h57 (by rw [z])
            refine r_aload_n (pc := 71) dX5_ahead_71 rfl ?_
            refine gf_X5_29 (pc := 72) dX5_ahead_72 rfl ?_
            refine gf_X5_171 (pc := 75) dX5_ahead_75 rfl ?_
            refine r_iload_n (pc := 78) dX5_ahead_78 rfl ?_
            refine r_iald (pc := 79) dX5_ahead_79 rfl (show _ < 6 by omega) ?_
            exact r_iret (pc := 80) dX5_ahead_80 rfl (by subst hPP; exact (by first | exact Or.inr ⟨k, q, p, hk, hqb, hpb, rfl, rfl, rfl, rfl, ff.trans r65.fpp⟩ | exact Or.inr ⟨k, q, p, hk, hqb, hpb, rfl, rfl, rfl, congrArg (fun z => some (Value.int z)) (by rw [aheadV, if_neg h43, if_neg h57]; exact (t1.2.2.2.2.2 k hk).2.1.trans (t3 k hk).2.1), ff⟩))
          · have h57 : p = 1 := (nI_eq (by omega) (by omega)).mp h57
            refine r_aload_n (pc := 60) dX5_ahead_60 rfl ?_
            refine gf_X5_29 (pc := 61) dX5_ahead_61 rfl ?_
            refine r_iload_n (pc := 64) dX5_ahead_64 rfl ?_
            refine iv_X5_204 (c_X2_rankOf_28 _ _ _ k T n t1 t2 hk) (pc := 65) dX5_ahead_65 rfl ⟨Nat.le_of_ble_eq_true rfl, Nat.le_of_ble_eq_true rfl⟩ (Nat.le_of_ble_eq_true rfl) hcs (kqI (fun N65 r65 => ?_))
            refine r_is (aheadV (goP S n q) n k p) (by rw [aheadV, if_neg h43, if_pos h57, t3.rank hk]) ?_
            refine r_goto (tgt := 80) (pc := 68) dX5_ahead_68 (by decide) ?_
            exact r_iret (pc := 80) dX5_ahead_80 rfl (by subst hPP; exact (by first | exact Or.inr ⟨k, q, p, hk, hqb, hpb, rfl, rfl, rfl, rfl, ff.trans r65.fpp⟩ | exact Or.inr ⟨k, q, p, hk, hqb, hpb, rfl, rfl, rfl, congrArg (fun z => some (Value.int z)) (by rw [aheadV, if_neg h43, if_neg h57]; exact (t1.2.2.2.2.2 k hk).2.1.trans (t3 k hk).2.1), ff⟩))
        · have h43 : p = 0 := (nI_eq (by omega) (by omega)).mp (h43.trans nI_0.symm)
          refine r_aload_n (pc := 46) dX5_ahead_46 rfl ?_
          refine gf_X5_29 (pc := 47) dX5_ahead_47 rfl ?_
          refine r_iload_n (pc := 50) dX5_ahead_50 rfl ?_
          refine iv_X5_201 (c_X2_highOf_28 _ _ _ k T n t1 t2 hk) (pc := 51) dX5_ahead_51 rfl ⟨Nat.le_of_ble_eq_true rfl, Nat.le_of_ble_eq_true rfl⟩ (Nat.le_of_ble_eq_true rfl) hcs (kI ?_)
          refine r_is (aheadV (goP S n q) n k p) (by rw [aheadV, if_pos h43, t3.high hk]) ?_
          exact r_iret (pc := 54) dX5_ahead_54 rfl (by subst hPP; exact (Or.inr ⟨k, q, p, hk, hqb, hpb, rfl, rfl, rfl, rfl, ff⟩))
      · have g24 : ¬ rgG 0 2 z := fun z => h24 (rg_mpr z (by omega))
        refine r_ldc (pc := 27) dX5_ahead_27 lk_X5_67 ?_
        exact r_iret (pc := 29) dX5_ahead_29 rfl (by subst hPP; exact (Or.inl ⟨by first | exact fun z => g5 z.1 | exact fun z => g15 z.2.1 | exact fun z => g24 z.2.2, rfl, rfl⟩))
set_option maxHeartbeats 4000000 in
set_option maxRecDepth 100000 in
theorem c_X5_minister (l : Launch) (G : Gx) (M : Mem) (x : Int32) (S : Nat → Int32) (n : Nat) (hm : ms 18 n S M) (hR : Rg n S) : Con l G yX5_minister cX5_minister 2 (some .int) 4 129 [.ref (gA G 14), .int x] M (fun v M' => (n = 0 ∧ rI cState M v M') ∨ (0 < n ∧ ¬ (rgG 0 60 x) ∧ rI cBad M v M') ∨ (0 < n ∧ ∃ q, q ≤ 60 ∧ x = nI q ∧ qI (atN (goP S n q) n (nI 0) n) (fpc M) v M')) := by
  refine Con.ofV [some (.ref (gA G 14)), some (.int x)] RX5 (by decide) rfl (Nat.le_of_ble_eq_true rfl) rfl ?_
  intro κ hl hG hk0 hn0
  subst hl hG
  have hcs : κ.k ≤ 0 ∧ κ.n ≤ 0 := ⟨Nat.le_of_eq hk0, Nat.le_of_eq hn0⟩
  generalize hPP : (fun v M' => (n = 0 ∧ rI cState M v M') ∨ (0 < n ∧ ¬ (rgG 0 60 x) ∧ rI cBad M v M') ∨ (0 < n ∧ ∃ q, q ≤ 60 ∧ x = nI q ∧ qI (atN (goP S n q) n (nI 0) n) (fpc M) v M')) = PP
  have hn := hm.1
  have hn6 := hR.1
  refine r_aload_n (pc := 0) dX5_minister_0 rfl ?_
  refine iv_X5_149 (c_X5_isEmpty _ _ _ n (by first | assumption | exact hm.1) hn6) (pc := 1) dX5_minister_1 rfl ⟨Nat.le_of_ble_eq_true rfl, Nat.le_of_ble_eq_true rfl⟩ (Nat.le_of_ble_eq_true rfl) hcs (kI ?_)
  refine r_ifeq_b (tgt := 10) (pc := 4) dX5_minister_4 (by decide) (fun h4 => ?_) (fun h4 => ?_)
  · have hn1 : 0 < n := Nat.pos_of_ne_zero h4
    refine r_iload_n (pc := 10) dX5_minister_10 rfl ?_
    refine r_iconst (v := nI 0) (pc := 11) dX5_minister_11 (by decide) ?_
    refine r_bipush (v := nI 60) (pc := 12) dX5_minister_12 (by decide) ?_
    refine iv_X5_63 (c_X5_within _ _ _ _ _ _) (pc := 14) dX5_minister_14 ⟨Nat.le_of_ble_eq_true rfl, Nat.le_of_ble_eq_true rfl⟩ (Nat.le_of_ble_eq_true rfl) hcs (kI ?_)
    refine r_ifne_b (tgt := 23) (pc := 17) dX5_minister_17 (by decide) (fun h17 => ?_) (fun h17 => ?_)
    · obtain ⟨q, hqa, hqb, rfl⟩ := rg_mp (a := 0) (b := 60) h17 (by omega) (by omega)
      refine r_aload_n (pc := 23) dX5_minister_23 rfl ?_
      refine iv_X5_213 (c_X5_foresee _ _ _ _ _ (by assumption) (by assumption)) (pc := 24) dX5_minister_24 rfl ⟨Nat.le_of_ble_eq_true rfl, Nat.le_of_ble_eq_true rfl⟩ (Nat.le_of_ble_eq_true rfl) hcs (kqV (fun N24 r24 => ?_))
      refine r_aload_n (pc := 27) dX5_minister_27 rfl ?_
      refine gf_X5_29 (pc := 28) dX5_minister_28 rfl ?_
      refine r_iload_n (pc := 31) dX5_minister_31 rfl ?_
      refine iv_X5_216 (c_X2_passNights_28 _ _ _ q (by omega) S n r24.2 hR hn1) (pc := 32) dX5_minister_32 rfl ⟨Nat.le_of_ble_eq_true rfl, Nat.le_of_ble_eq_true rfl⟩ (Nat.le_of_ble_eq_true rfl) hcs (kqV (fun N32 r32 => ?_))
      obtain ⟨f32, T, t1, t2, t3⟩ := r32
      have ff := r24.1.trans f32.fpp
      refine r_aload_n (pc := 35) dX5_minister_35 rfl ?_
      refine gf_X5_29 (pc := 36) dX5_minister_36 rfl ?_
      refine r_iconst (v := nI 0) (pc := 39) dX5_minister_39 (by decide) ?_
      refine iv_X5_162 (c_X2_atRank_28 _ _ _ 0 T n t1 t2 hn1) (pc := 40) dX5_minister_40 rfl ⟨Nat.le_of_ble_eq_true rfl, Nat.le_of_ble_eq_true rfl⟩ (Nat.le_of_ble_eq_true rfl) hcs (kqI (fun N40 r40 => ?_))
      refine r_is (atN (goP S n q) n (nI 0) n) (by rw [t3.at _ n (Nat.le_refl n)]) ?_
      exact r_iret (pc := 43) dX5_minister_43 rfl (by subst hPP; exact (Or.inr (Or.inr ⟨hn1, q, hqb, rfl, rfl, ff.trans r40.fpp⟩)))
    · have g17 : ¬ rgG 0 60 x := fun z => h17 (rg_mpr z (by omega))
      refine r_ldc (pc := 20) dX5_minister_20 lk_X5_67 ?_
      exact r_iret (pc := 22) dX5_minister_22 rfl (by subst hPP; exact (Or.inr (Or.inl ⟨hn1, g17, rfl, rfl⟩)))
  · have g4 : n = 0 := h4
    refine r_ldc (pc := 7) dX5_minister_7 lk_X5_148 ?_
    exact r_iret (pc := 9) dX5_minister_9 rfl (by subst hPP; exact (Or.inl ⟨g4, rfl, rfl⟩))
set_option maxHeartbeats 4000000 in
set_option maxRecDepth 100000 in
theorem c_X5_floor (l : Launch) (G : Gx) (M : Mem) (x : Int32) (S : Nat → Int32) (n : Nat) (hm : ms 18 n S M) (hR : Rg n S) : Con l G yX5_floor cX5_floor 3 (some .int) 3 107 [.ref (gA G 14), .int x] M (fun v M' => (¬ (chG n x) ∧ rI cBad M v M') ∨ (∃ k, k < n ∧ x = nI k ∧ ∃ u, fstE (fun i => goP S n i (11 + k) = 0) 61 u ∧ qI u (fpc M) v M')) := by
  refine Con.ofV [some (.ref (gA G 14)), some (.int x), none] RX5 (by decide) rfl (Nat.le_of_ble_eq_true rfl) rfl ?_
  intro κ hl hG hk0 hn0
  subst hl hG
  have hcs : κ.k ≤ 0 ∧ κ.n ≤ 0 := ⟨Nat.le_of_eq hk0, Nat.le_of_eq hn0⟩
  generalize hPP : (fun v M' => (¬ (chG n x) ∧ rI cBad M v M') ∨ (∃ k, k < n ∧ x = nI k ∧ ∃ u, fstE (fun i => goP S n i (11 + k) = 0) 61 u ∧ qI u (fpc M) v M')) = PP
  have hn := hm.1
  have hn6 := hR.1
  refine r_aload_n (pc := 0) dX5_floor_0 rfl ?_
  refine r_iload_n (pc := 1) dX5_floor_1 rfl ?_
  refine iv_X5_165 (c_X5_isChair _ _ _ _) (pc := 2) dX5_floor_2 rfl ⟨Nat.le_of_ble_eq_true rfl, Nat.le_of_ble_eq_true rfl⟩ (Nat.le_of_ble_eq_true rfl) hcs (kI ?_)
  refine r_ifne_b (tgt := 11) (pc := 5) dX5_floor_5 (by decide) (fun h5 => ?_) (fun h5 => ?_)
  · obtain ⟨k, hk, rfl⟩ := ch_mp hn hn6 h5
    have hn1 : 0 < n := by omega
    refine r_aload_n (pc := 11) dX5_floor_11 rfl ?_
    refine iv_X5_213 (c_X5_foresee _ _ _ _ _ (by assumption) (by assumption)) (pc := 12) dX5_floor_12 rfl ⟨Nat.le_of_ble_eq_true rfl, Nat.le_of_ble_eq_true rfl⟩ (Nat.le_of_ble_eq_true rfl) hcs (kqV (fun N12 r12 => ?_))
    refine r_iconst (v := nI 0) (pc := 15) dX5_floor_15 (by decide) ?_
    refine r_st_n [_, _, _] (pc := 16) dX5_floor_16 (by decide) rfl rfl ?_
    refine V.bk (loopV (fun (σ : Nat × Mem) => V κ cX5_floor RX5 3 (some .int) (rmx 3 107) (QM κ PP) (σ.2) 17 [some (.ref (gA κ.G 14)), some (.int (nI k)), some (.int (nI (σ.1)))] []) (fun (σ : Nat × Mem) => (σ.1) ≤ 61 ∧ fpc M (σ.2) ∧ ms 28 n (goP S n (σ.1)) (σ.2) ∧ ∀ i, i < (σ.1) → ¬ goP S n i (11 + k) = 0) (fun (σ : Nat × Mem) => 61 - (σ.1)) ?_ (0, N12) ⟨Nat.zero_le _, r12.1, r12.2, fun i h => absurd h (Nat.not_lt_zero i)⟩) rfl (by (repeat (first | exact wk_0 | refine wk_n ?_ | refine wk_s rfl ?_)); done)
    rintro ⟨j, N⟩ hI0 ih
    dsimp only at hI0 ih
    obtain ⟨hj, hf, hmj, hi⟩ := hI0
    show V κ cX5_floor RX5 3 (some .int) (rmx 3 107) (QM κ PP) N 17 [some (.ref (gA κ.G 14)), some (.int (nI k)), some (.int (nI j))] []
    refine r_iload_n (pc := 17) dX5_floor_17 rfl ?_
    refine r_bipush (v := nI 60) (pc := 18) dX5_floor_18 (by decide) ?_
    refine r_icmp_gt (tgt := 56) (pc := 20) dX5_floor_20 (by decide) (fun h20 => ?_) (fun h20 => ?_)
    · have hj61 : j = 61 := by have := (nI_ltI (by omega) (by omega)).mp h20; omega
      refine r_ldc (pc := 56) dX5_floor_56 lk_X5_219 ?_
      exact r_iret (pc := 58) dX5_floor_58 rfl (by subst hPP; exact (Or.inr ⟨k, hk, rfl, cNone, Or.inr ⟨fun i z => hi i (by omega), rfl⟩, rfl, hf⟩))
    · have hj60 : j ≤ 60 := Nat.not_lt.mp (fun z => h20 (nI_lt z (by omega)))
      refine r_aload_n (pc := 23) dX5_floor_23 rfl ?_
      refine gf_X5_29 (pc := 24) dX5_floor_24 rfl ?_
      refine gf_X5_171 (pc := 27) dX5_floor_27 rfl ?_
      refine r_iload_n (pc := 30) dX5_floor_30 rfl ?_
      refine r_iald (pc := 31) dX5_floor_31 rfl (show _ < 6 by omega) ?_
      refine r_is (goP S n j (11 + k)) (hmj.2.2.2.2.2 k hk).2.1 ?_
      refine r_if_ne (tgt := 37) (pc := 32) dX5_floor_32 (by decide) (fun h32 => ?_) (fun h32 => ?_)
      · refine r_aload_n (pc := 37) dX5_floor_37 rfl ?_
        refine gf_X5_29 (pc := 38) dX5_floor_38 rfl ?_
        refine iv_X5_159 (c_X2_passNight_28 _ _ _ (goP S n j) n hmj (hR.go hn1 j) hn1) (pc := 41) dX5_floor_41 rfl ⟨Nat.le_of_ble_eq_true rfl, Nat.le_of_ble_eq_true rfl⟩ (Nat.le_of_ble_eq_true rfl) hcs (kqI (fun N41 r41 => ?_))
        refine r_ifne_b (tgt := 50) (pc := 44) dX5_floor_44 (by decide) (fun h44 => ?_) (fun h44 => ?_)
        · first | refine r_inc [_, _, _] (pc := 50) dX5_floor_50 rfl (nI_inc _) (by decide) rfl rfl ?_ | refine r_inc [_, _, _] (pc := 50) dX5_floor_50 rfl rfl (by decide) rfl rfl ?_
          refine r_goto (tgt := 17) (pc := 53) dX5_floor_53 (by decide) ?_
          exact V.bk (ih (j + 1, N41) ⟨by dsimp only; omega, hf.trans r41.1.fpp, r41.2, lt_s hi h32⟩ (by dsimp only; omega)) rfl (by (repeat (first | exact wk_0 | refine wk_n ?_ | refine wk_s rfl ?_)); done)
        · have hst := (still_sum (hR.go hn1 j) hn1).mp (Decidable.of_not_not h44)
          refine r_ldc (pc := 47) dX5_floor_47 lk_X5_219 ?_
          exact r_iret (pc := 49) dX5_floor_49 rfl (by subst hPP; exact (Or.inr ⟨k, hk, rfl, cNone, Or.inr ⟨fun i _ => by
                  by_cases z : i < j
                  · exact hi i z
                  · dsimp only; rw [(still.far hst hR hn1 (show j ≤ i by omega) k hk).2.1]; exact h32, rfl⟩, rfl, hf.trans r41.1.fpp⟩))
      · refine r_iload_n (pc := 35) dX5_floor_35 rfl ?_
        exact r_iret (pc := 36) dX5_floor_36 rfl (by subst hPP; exact (Or.inr ⟨k, hk, rfl, nI j, Or.inl ⟨j, by omega, h32, hi, rfl⟩, rfl, hf⟩))
  · have g5 : ¬ chG n x := fun z => h5 (ch_mpr hn hn6 z)
    refine r_ldc (pc := 8) dX5_floor_8 lk_X5_67 ?_
    exact r_iret (pc := 10) dX5_floor_10 rfl (by subst hPP; exact (Or.inl ⟨by first | exact fun z => g5 z, rfl, rfl⟩))
set_option maxHeartbeats 4000000 in
set_option maxRecDepth 100000 in
theorem c_X5_rises (l : Launch) (G : Gx) (M : Mem) (x y : Int32) (S : Nat → Int32) (n : Nat) (hm : ms 18 n S M) (hR : Rg n S) : Con l G yX5_rises cX5_rises 4 (some .int) 3 107 [.ref (gA G 14), .int x, .int y] M (fun v M' => (¬ (chG n x ∧ rgG 0 5 y) ∧ rI cBad M v M') ∨ (∃ k q, k < n ∧ q ≤ 5 ∧ x = nI k ∧ y = nI q ∧ ∃ u, fstE (fun i => rankN (goP S n i) k n ≤ q) 61 u ∧ qI u (fpc M) v M')) := by
  refine Con.ofV [some (.ref (gA G 14)), some (.int x), some (.int y), none] RX5 (by decide) rfl (Nat.le_of_ble_eq_true rfl) rfl ?_
  intro κ hl hG hk0 hn0
  subst hl hG
  have hcs : κ.k ≤ 0 ∧ κ.n ≤ 0 := ⟨Nat.le_of_eq hk0, Nat.le_of_eq hn0⟩
  generalize hPP : (fun v M' => (¬ (chG n x ∧ rgG 0 5 y) ∧ rI cBad M v M') ∨ (∃ k q, k < n ∧ q ≤ 5 ∧ x = nI k ∧ y = nI q ∧ ∃ u, fstE (fun i => rankN (goP S n i) k n ≤ q) 61 u ∧ qI u (fpc M) v M')) = PP
  have hn := hm.1
  have hn6 := hR.1
  refine r_aload_n (pc := 0) dX5_rises_0 rfl ?_
  refine r_iload_n (pc := 1) dX5_rises_1 rfl ?_
  refine iv_X5_165 (c_X5_isChair _ _ _ _) (pc := 2) dX5_rises_2 rfl ⟨Nat.le_of_ble_eq_true rfl, Nat.le_of_ble_eq_true rfl⟩ (Nat.le_of_ble_eq_true rfl) hcs (kI ?_)
  refine r_ifeq_b (tgt := 17) (pc := 5) dX5_rises_5 (by decide) (fun h5 => ?_) (fun h5 => ?_)
  · have g5 : ¬ chG n x := fun z => h5 (ch_mpr hn hn6 z)
    refine r_ldc (pc := 17) dX5_rises_17 lk_X5_67 ?_
    exact r_iret (pc := 19) dX5_rises_19 rfl (by subst hPP; exact (Or.inl ⟨by first | exact fun z => g5 z.1 | exact fun z => g14 z.2, rfl, rfl⟩))
  · obtain ⟨k, hk, rfl⟩ := ch_mp hn hn6 h5
    refine r_iload_n (pc := 8) dX5_rises_8 rfl ?_
    refine r_iconst (v := nI 0) (pc := 9) dX5_rises_9 (by decide) ?_
    refine r_iconst (v := nI 5) (pc := 10) dX5_rises_10 (by decide) ?_
    refine iv_X5_63 (c_X5_within _ _ _ _ _ _) (pc := 11) dX5_rises_11 ⟨Nat.le_of_ble_eq_true rfl, Nat.le_of_ble_eq_true rfl⟩ (Nat.le_of_ble_eq_true rfl) hcs (kI ?_)
    refine r_ifne_b (tgt := 20) (pc := 14) dX5_rises_14 (by decide) (fun h14 => ?_) (fun h14 => ?_)
    · obtain ⟨q, hqa, hqb, rfl⟩ := rg_mp (a := 0) (b := 5) h14 (by omega) (by omega)
      have hn1 : 0 < n := by omega
      refine r_aload_n (pc := 20) dX5_rises_20 rfl ?_
      refine iv_X5_213 (c_X5_foresee _ _ _ _ _ (by assumption) (by assumption)) (pc := 21) dX5_rises_21 rfl ⟨Nat.le_of_ble_eq_true rfl, Nat.le_of_ble_eq_true rfl⟩ (Nat.le_of_ble_eq_true rfl) hcs (kqV (fun N21 r21 => ?_))
      refine r_iconst (v := nI 0) (pc := 24) dX5_rises_24 (by decide) ?_
      refine r_st_n [_, _, _, _] (pc := 25) dX5_rises_25 (by decide) rfl rfl ?_
      refine V.bk (loopV (fun (σ : Nat × Mem) => V κ cX5_rises RX5 4 (some .int) (rmx 3 107) (QM κ PP) (σ.2) 26 [some (.ref (gA κ.G 14)), some (.int (nI k)), some (.int (nI q)), some (.int (nI (σ.1)))] []) (fun (σ : Nat × Mem) => (σ.1) ≤ 61 ∧ fpc M (σ.2) ∧ ms 28 n (goP S n (σ.1)) (σ.2) ∧ ∀ i, i < (σ.1) → ¬ rankN (goP S n i) k n ≤ q) (fun (σ : Nat × Mem) => 61 - (σ.1)) ?_ (0, N21) ⟨Nat.zero_le _, r21.1, r21.2, fun i h => absurd h (Nat.not_lt_zero i)⟩) rfl (by (repeat (first | exact wk_0 | refine wk_n ?_ | refine wk_s rfl ?_)); done)
      rintro ⟨j, N⟩ hI0 ih
      dsimp only at hI0 ih
      obtain ⟨hj, hf, hmj, hi⟩ := hI0
      show V κ cX5_rises RX5 4 (some .int) (rmx 3 107) (QM κ PP) N 26 [some (.ref (gA κ.G 14)), some (.int (nI k)), some (.int (nI q)), some (.int (nI j))] []
      refine r_iload_n (pc := 26) dX5_rises_26 rfl ?_
      refine r_bipush (v := nI 60) (pc := 27) dX5_rises_27 (by decide) ?_
      refine r_icmp_gt (tgt := 65) (pc := 29) dX5_rises_29 (by decide) (fun h29 => ?_) (fun h29 => ?_)
      · have hj61 : j = 61 := by have := (nI_ltI (by omega) (by omega)).mp h29; omega
        refine r_ldc (pc := 65) dX5_rises_65 lk_X5_219 ?_
        exact r_iret (pc := 67) dX5_rises_67 rfl (by subst hPP; exact (Or.inr ⟨k, q, hk, hqb, rfl, rfl, cNone, Or.inr ⟨fun i z => hi i (by omega), rfl⟩, rfl, hf⟩))
      · have hj60 : j ≤ 60 := Nat.not_lt.mp (fun z => h29 (nI_lt z (by omega)))
        refine r_aload_n (pc := 32) dX5_rises_32 rfl ?_
        refine gf_X5_29 (pc := 33) dX5_rises_33 rfl ?_
        refine r_iload_n (pc := 36) dX5_rises_36 rfl ?_
        refine iv_X5_204 (c_X2_rankOf_28 _ _ _ k (goP S n j) n hmj (hR.go hn1 j) hk) (pc := 37) dX5_rises_37 rfl ⟨Nat.le_of_ble_eq_true rfl, Nat.le_of_ble_eq_true rfl⟩ (Nat.le_of_ble_eq_true rfl) hcs (kqI (fun N37 r37 => ?_))
        have hrl := rank_lt (goP S n j) hk
        refine r_iload_n (pc := 40) dX5_rises_40 rfl ?_
        refine r_icmp_gt (tgt := 46) (pc := 41) dX5_rises_41 (by decide) (fun h41 => ?_) (fun h41 => ?_)
        · have h41 : ¬ rankN (goP S n j) k n ≤ q := fun z => by have := (nI_ltI (by omega) (by omega)).mp h41; omega
          refine r_aload_n (pc := 46) dX5_rises_46 rfl ?_
          refine gf_X5_29 (pc := 47) dX5_rises_47 rfl ?_
          refine iv_X5_159 (c_X2_passNight_28 _ _ _ (goP S n j) n (r37.ms hmj) (hR.go hn1 j) hn1) (pc := 50) dX5_rises_50 rfl ⟨Nat.le_of_ble_eq_true rfl, Nat.le_of_ble_eq_true rfl⟩ (Nat.le_of_ble_eq_true rfl) hcs (kqI (fun N50 r50 => ?_))
          refine r_ifne_b (tgt := 59) (pc := 53) dX5_rises_53 (by decide) (fun h53 => ?_) (fun h53 => ?_)
          · first | refine r_inc [_, _, _, _] (pc := 59) dX5_rises_59 rfl (nI_inc _) (by decide) rfl rfl ?_ | refine r_inc [_, _, _, _] (pc := 59) dX5_rises_59 rfl rfl (by decide) rfl rfl ?_
            refine r_goto (tgt := 26) (pc := 62) dX5_rises_62 (by decide) ?_
            exact V.bk (ih (j + 1, N50) ⟨by dsimp only; omega, (hf.trans r37.fpp).trans r50.1.fpp, r50.2, lt_s hi h41⟩ (by dsimp only; omega)) rfl (by (repeat (first | exact wk_0 | refine wk_n ?_ | refine wk_s rfl ?_)); done)
          · have hst := (still_sum (hR.go hn1 j) hn1).mp (Decidable.of_not_not h53)
            refine r_ldc (pc := 56) dX5_rises_56 lk_X5_219 ?_
            exact r_iret (pc := 58) dX5_rises_58 rfl (by subst hPP; exact (Or.inr ⟨k, q, hk, hqb, rfl, rfl, cNone, Or.inr ⟨fun i _ => by
                    by_cases z : i < j
                    · exact hi i z
                    · dsimp only; rw [(still.far hst hR hn1 (show j ≤ i by omega)).rank hk]; exact h41, rfl⟩, rfl, (hf.trans r37.fpp).trans r50.1.fpp⟩))
        · have h41 : rankN (goP S n j) k n ≤ q := Nat.not_lt.mp (fun z => h41 (nI_lt z (by omega)))
          refine r_iload_n (pc := 44) dX5_rises_44 rfl ?_
          exact r_iret (pc := 45) dX5_rises_45 rfl (by subst hPP; exact (Or.inr ⟨k, q, hk, hqb, rfl, rfl, nI j, Or.inl ⟨j, by omega, h41, hi, rfl⟩, rfl, hf.trans r37.fpp⟩))
    · have g14 : ¬ rgG 0 5 y := fun z => h14 (rg_mpr z (by omega))
      refine r_ldc (pc := 17) dX5_rises_17 lk_X5_67 ?_
      exact r_iret (pc := 19) dX5_rises_19 rfl (by subst hPP; exact (Or.inl ⟨by first | exact fun z => g5 z.1 | exact fun z => g14 z.2, rfl, rfl⟩))
set_option maxHeartbeats 4000000 in
set_option maxRecDepth 100000 in
theorem c_X5_calm (l : Launch) (G : Gx) (M : Mem) (S : Nat → Int32) (n : Nat) (hm : ms 18 n S M) (hR : Rg n S) : Con l G yX5_calm cX5_calm 2 (some .int) 3 107 [.ref (gA G 14)] M (fun v M' => (n = 0 ∧ rI cState M v M') ∨ (0 < n ∧ ∃ u, fstE (fun i => sumN (goP S n (i + 1)) 11 n = sumN (goP S n i) 11 n) 61 u ∧ qI u (fpc M) v M')) := by
  refine Con.ofV [some (.ref (gA G 14)), none] RX5 (by decide) rfl (Nat.le_of_ble_eq_true rfl) rfl ?_
  intro κ hl hG hk0 hn0
  subst hl hG
  have hcs : κ.k ≤ 0 ∧ κ.n ≤ 0 := ⟨Nat.le_of_eq hk0, Nat.le_of_eq hn0⟩
  generalize hPP : (fun v M' => (n = 0 ∧ rI cState M v M') ∨ (0 < n ∧ ∃ u, fstE (fun i => sumN (goP S n (i + 1)) 11 n = sumN (goP S n i) 11 n) 61 u ∧ qI u (fpc M) v M')) = PP
  have hn := hm.1
  have hn6 := hR.1
  refine r_aload_n (pc := 0) dX5_calm_0 rfl ?_
  refine iv_X5_149 (c_X5_isEmpty _ _ _ n (by first | assumption | exact hm.1) hn6) (pc := 1) dX5_calm_1 rfl ⟨Nat.le_of_ble_eq_true rfl, Nat.le_of_ble_eq_true rfl⟩ (Nat.le_of_ble_eq_true rfl) hcs (kI ?_)
  refine r_ifeq_b (tgt := 10) (pc := 4) dX5_calm_4 (by decide) (fun h4 => ?_) (fun h4 => ?_)
  · have hn1 : 0 < n := Nat.pos_of_ne_zero h4
    refine r_aload_n (pc := 10) dX5_calm_10 rfl ?_
    refine iv_X5_213 (c_X5_foresee _ _ _ _ _ (by assumption) (by assumption)) (pc := 11) dX5_calm_11 rfl ⟨Nat.le_of_ble_eq_true rfl, Nat.le_of_ble_eq_true rfl⟩ (Nat.le_of_ble_eq_true rfl) hcs (kqV (fun N11 r11 => ?_))
    refine r_iconst (v := nI 0) (pc := 14) dX5_calm_14 (by decide) ?_
    refine r_st_n [_, _] (pc := 15) dX5_calm_15 (by decide) rfl rfl ?_
    refine V.bk (loopV (fun (σ : Nat × Mem) => V κ cX5_calm RX5 2 (some .int) (rmx 3 107) (QM κ PP) (σ.2) 16 [some (.ref (gA κ.G 14)), some (.int (nI (σ.1)))] []) (fun (σ : Nat × Mem) => (σ.1) ≤ 61 ∧ fpc M (σ.2) ∧ ms 28 n (goP S n (σ.1)) (σ.2) ∧ ∀ i, i < (σ.1) → ¬ sumN (goP S n (i + 1)) 11 n = sumN (goP S n i) 11 n) (fun (σ : Nat × Mem) => 61 - (σ.1)) ?_ (0, N11) ⟨Nat.zero_le _, r11.1, r11.2, fun i h => absurd h (Nat.not_lt_zero i)⟩) rfl (by (repeat (first | exact wk_0 | refine wk_n ?_ | refine wk_s rfl ?_)); done)
    rintro ⟨j, N⟩ hI0 ih
    dsimp only at hI0 ih
    obtain ⟨hj, hf, hmj, hi⟩ := hI0
    show V κ cX5_calm RX5 2 (some .int) (rmx 3 107) (QM κ PP) N 16 [some (.ref (gA κ.G 14)), some (.int (nI j))] []
    refine r_iload_n (pc := 16) dX5_calm_16 rfl ?_
    refine r_bipush (v := nI 60) (pc := 17) dX5_calm_17 (by decide) ?_
    refine r_icmp_gt (tgt := 40) (pc := 19) dX5_calm_19 (by decide) (fun h19 => ?_) (fun h19 => ?_)
    · have hj61 : j = 61 := by have := (nI_ltI (by omega) (by omega)).mp h19; omega
      refine r_ldc (pc := 40) dX5_calm_40 lk_X5_219 ?_
      exact r_iret (pc := 42) dX5_calm_42 rfl (by subst hPP; exact (Or.inr ⟨hn1, cNone, Or.inr ⟨fun i z => hi i (by omega), rfl⟩, rfl, hf⟩))
    · have hj60 : j ≤ 60 := Nat.not_lt.mp (fun z => h19 (nI_lt z (by omega)))
      refine r_aload_n (pc := 22) dX5_calm_22 rfl ?_
      refine gf_X5_29 (pc := 23) dX5_calm_23 rfl ?_
      refine iv_X5_159 (c_X2_passNight_28 _ _ _ (goP S n j) n hmj (hR.go hn1 j) hn1) (pc := 26) dX5_calm_26 rfl ⟨Nat.le_of_ble_eq_true rfl, Nat.le_of_ble_eq_true rfl⟩ (Nat.le_of_ble_eq_true rfl) hcs (kqI (fun N26 r26 => ?_))
      refine r_ifne_b (tgt := 34) (pc := 29) dX5_calm_29 (by decide) (fun h29 => ?_) (fun h29 => ?_)
      · first | refine r_inc [_, _] (pc := 34) dX5_calm_34 rfl (nI_inc _) (by decide) rfl rfl ?_ | refine r_inc [_, _] (pc := 34) dX5_calm_34 rfl rfl (by decide) rfl rfl ?_
        refine r_goto (tgt := 16) (pc := 37) dX5_calm_37 (by decide) ?_
        exact V.bk (ih (j + 1, N26) ⟨by dsimp only; omega, hf.trans r26.1.fpp, r26.2, lt_s hi h29⟩ (by dsimp only; omega)) rfl (by (repeat (first | exact wk_0 | refine wk_n ?_ | refine wk_s rfl ?_)); done)
      · refine r_iload_n (pc := 32) dX5_calm_32 rfl ?_
        exact r_iret (pc := 33) dX5_calm_33 rfl (by subst hPP; exact (Or.inr ⟨hn1, nI j, Or.inl ⟨j, by omega, Decidable.of_not_not h29, hi, rfl⟩, rfl, hf.trans r26.1.fpp⟩))
  · have g4 : n = 0 := h4
    refine r_ldc (pc := 7) dX5_calm_7 lk_X5_148 ?_
    exact r_iret (pc := 9) dX5_calm_9 rfl (by subst hPP; exact (Or.inl ⟨g4, rfl, rfl⟩))
set_option maxHeartbeats 4000000 in
set_option maxRecDepth 100000 in
theorem c_X5_cushionFor (l : Launch) (G : Gx) (M : Mem) (x y z : Int32) (S : Nat → Int32) (n : Nat) (hm : ms 18 n S M) (hR : Rg n S) : Con l G yX5_cushionFor cX5_cushionFor 5 (some .int) 4 129 [.ref (gA G 14), .int x, .int y, .int z] M (fun v M' => (¬ (chG n x ∧ rgG 0 5 y ∧ rgG 0 30 z) ∧ rI cBad M v M') ∨ (∃ k q m, k < n ∧ q ≤ 5 ∧ m ≤ 30 ∧ x = nI k ∧ y = nI q ∧ z = nI m ∧ ∃ u, fstE (fun i => ¬ nI q < nI (rankN (goP (upd S (29 + k) (nI i)) n m) k n)) 21 u ∧ qI u (fpc M) v M')) := by
  refine Con.ofV [some (.ref (gA G 14)), some (.int x), some (.int y), some (.int z), none] RX5 (by decide) rfl (Nat.le_of_ble_eq_true rfl) rfl ?_
  intro κ hl hG hk0 hn0
  subst hl hG
  have hcs : κ.k ≤ 0 ∧ κ.n ≤ 0 := ⟨Nat.le_of_eq hk0, Nat.le_of_eq hn0⟩
  generalize hPP : (fun v M' => (¬ (chG n x ∧ rgG 0 5 y ∧ rgG 0 30 z) ∧ rI cBad M v M') ∨ (∃ k q m, k < n ∧ q ≤ 5 ∧ m ≤ 30 ∧ x = nI k ∧ y = nI q ∧ z = nI m ∧ ∃ u, fstE (fun i => ¬ nI q < nI (rankN (goP (upd S (29 + k) (nI i)) n m) k n)) 21 u ∧ qI u (fpc M) v M')) = PP
  have hn := hm.1
  have hn6 := hR.1
  refine r_aload_n (pc := 0) dX5_cushionFor_0 rfl ?_
  refine r_iload_n (pc := 1) dX5_cushionFor_1 rfl ?_
  refine iv_X5_165 (c_X5_isChair _ _ _ _) (pc := 2) dX5_cushionFor_2 rfl ⟨Nat.le_of_ble_eq_true rfl, Nat.le_of_ble_eq_true rfl⟩ (Nat.le_of_ble_eq_true rfl) hcs (kI ?_)
  refine r_ifeq_b (tgt := 27) (pc := 5) dX5_cushionFor_5 (by decide) (fun h5 => ?_) (fun h5 => ?_)
  · have g5 : ¬ chG n x := fun z => h5 (ch_mpr hn hn6 z)
    refine r_ldc (pc := 27) dX5_cushionFor_27 lk_X5_67 ?_
    exact r_iret (pc := 29) dX5_cushionFor_29 rfl (by subst hPP; exact (Or.inl ⟨by first | exact fun z => g5 z.1 | exact fun z => g14 z.2.1 | exact fun z => g24 z.2.2, rfl, rfl⟩))
  · obtain ⟨k, hk, rfl⟩ := ch_mp hn hn6 h5
    refine r_iload_n (pc := 8) dX5_cushionFor_8 rfl ?_
    refine r_iconst (v := nI 0) (pc := 9) dX5_cushionFor_9 (by decide) ?_
    refine r_iconst (v := nI 5) (pc := 10) dX5_cushionFor_10 (by decide) ?_
    refine iv_X5_63 (c_X5_within _ _ _ _ _ _) (pc := 11) dX5_cushionFor_11 ⟨Nat.le_of_ble_eq_true rfl, Nat.le_of_ble_eq_true rfl⟩ (Nat.le_of_ble_eq_true rfl) hcs (kI ?_)
    refine r_ifeq_b (tgt := 27) (pc := 14) dX5_cushionFor_14 (by decide) (fun h14 => ?_) (fun h14 => ?_)
    · have g14 : ¬ rgG 0 5 y := fun z => h14 (rg_mpr z (by omega))
      refine r_ldc (pc := 27) dX5_cushionFor_27 lk_X5_67 ?_
      exact r_iret (pc := 29) dX5_cushionFor_29 rfl (by subst hPP; exact (Or.inl ⟨by first | exact fun z => g5 z.1 | exact fun z => g14 z.2.1 | exact fun z => g24 z.2.2, rfl, rfl⟩))
    · obtain ⟨q, hqa, hqb, rfl⟩ := rg_mp (a := 0) (b := 5) h14 (by omega) (by omega)
      refine r_iload_n (pc := 17) dX5_cushionFor_17 rfl ?_
      refine r_iconst (v := nI 0) (pc := 18) dX5_cushionFor_18 (by decide) ?_
      refine r_bipush (v := nI 30) (pc := 19) dX5_cushionFor_19 (by decide) ?_
      refine iv_X5_63 (c_X5_within _ _ _ _ _ _) (pc := 21) dX5_cushionFor_21 ⟨Nat.le_of_ble_eq_true rfl, Nat.le_of_ble_eq_true rfl⟩ (Nat.le_of_ble_eq_true rfl) hcs (kI ?_)
      refine r_ifne_b (tgt := 30) (pc := 24) dX5_cushionFor_24 (by decide) (fun h24 => ?_) (fun h24 => ?_)
      · obtain ⟨m, hma, hmb, rfl⟩ := rg_mp (a := 0) (b := 30) h24 (by omega) (by omega)
        have hn1 : 0 < n := by omega
        refine r_iconst (v := nI 0) (pc := 30) dX5_cushionFor_30 (by decide) ?_
        refine r_st [_, _, _, _, _] (pc := 31) dX5_cushionFor_31 (by decide) rfl rfl ?_
        refine V.bk (loopV (fun (σ : Nat × Mem) => V κ cX5_cushionFor RX5 5 (some .int) (rmx 4 129) (QM κ PP) (σ.2) 33 [some (.ref (gA κ.G 14)), some (.int (nI k)), some (.int (nI q)), some (.int (nI m)), some (.int (nI (σ.1)))] []) (fun (σ : Nat × Mem) => (σ.1) ≤ 21 ∧ fpc M (σ.2) ∧ ∀ i, i < (σ.1) → ¬ (fun i => ¬ nI q < nI (rankN (goP (upd S (29 + k) (nI i)) n m) k n)) i) (fun (σ : Nat × Mem) => 21 - (σ.1)) ?_ (0, M) ⟨Nat.zero_le _, fpc.refl _, fun i h => absurd h (Nat.not_lt_zero i)⟩) rfl (by (repeat (first | exact wk_0 | refine wk_n ?_ | refine wk_s rfl ?_)); done)
        rintro ⟨j, N⟩ hI0 ih
        dsimp only at hI0 ih
        obtain ⟨hj, hf, hi⟩ := hI0
        show V κ cX5_cushionFor RX5 5 (some .int) (rmx 4 129) (QM κ PP) N 33 [some (.ref (gA κ.G 14)), some (.int (nI k)), some (.int (nI q)), some (.int (nI m)), some (.int (nI j))] []
        refine r_iload (pc := 33) dX5_cushionFor_33 rfl ?_
        refine r_bipush (v := nI 20) (pc := 35) dX5_cushionFor_35 (by decide) ?_
        refine r_icmp_gt (tgt := 84) (pc := 37) dX5_cushionFor_37 (by decide) (fun h37 => ?_) (fun h37 => ?_)
        · have hj21 : j = 21 := by have := (nI_ltI (by omega) (by omega)).mp h37; omega
          refine r_ldc (pc := 84) dX5_cushionFor_84 lk_X5_219 ?_
          exact r_iret (pc := 86) dX5_cushionFor_86 rfl (by subst hPP; exact (Or.inr ⟨k, q, m, hk, hqb, hmb, rfl, rfl, rfl, cNone, Or.inr ⟨fun i z => hi i (by omega), rfl⟩, rfl, hf⟩))
        · have hj20 : j ≤ 20 := Nat.not_lt.mp (fun z => h37 (nI_lt z (by omega)))
          refine r_aload_n (pc := 40) dX5_cushionFor_40 rfl ?_
          refine iv_X5_213 (c_X5_foresee _ _ _ S n (hf.ms hm) hR) (pc := 41) dX5_cushionFor_41 rfl ⟨Nat.le_of_ble_eq_true rfl, Nat.le_of_ble_eq_true rfl⟩ (Nat.le_of_ble_eq_true rfl) hcs (kqV (fun N41 r41 => ?_))
          refine r_aload_n (pc := 44) dX5_cushionFor_44 rfl ?_
          refine gf_X5_29 (pc := 45) dX5_cushionFor_45 rfl ?_
          refine gf_X5_168 (pc := 48) dX5_cushionFor_48 rfl ?_
          refine r_iload_n (pc := 51) dX5_cushionFor_51 rfl ?_
          refine r_iload (pc := 52) dX5_cushionFor_52 rfl ?_
          refine r_iast (pc := 54) dX5_cushionFor_54 rfl (show _ < 6 by omega) ?_
          refine r_aload_n (pc := 55) dX5_cushionFor_55 rfl ?_
          refine gf_X5_29 (pc := 56) dX5_cushionFor_56 rfl ?_
          refine r_iload_n (pc := 59) dX5_cushionFor_59 rfl ?_
          refine iv_X5_216 (c_X2_passNights_28 _ _ _ m (by omega) (upd S (29 + k) (nI j)) n (r41.2.put (j := 3) (p := 29) (by omega) (by omega) hn6 _) (hR.put (by omega) (by omega)) hn1) (pc := 60) dX5_cushionFor_60 rfl ⟨Nat.le_of_ble_eq_true rfl, Nat.le_of_ble_eq_true rfl⟩ (Nat.le_of_ble_eq_true rfl) hcs (kqV (fun N60 r60 => ?_))
          obtain ⟨f60, T, t1, t2, t3⟩ := r60
          have ff := ((hf.trans r41.1).put 31 k (nI j) (by omega) (by omega)).trans f60.fpp
          refine r_aload_n (pc := 63) dX5_cushionFor_63 rfl ?_
          refine gf_X5_29 (pc := 64) dX5_cushionFor_64 rfl ?_
          refine r_iload_n (pc := 67) dX5_cushionFor_67 rfl ?_
          refine iv_X5_204 (c_X2_rankOf_28 _ _ _ k T n t1 t2 hk) (pc := 68) dX5_cushionFor_68 rfl ⟨Nat.le_of_ble_eq_true rfl, Nat.le_of_ble_eq_true rfl⟩ (Nat.le_of_ble_eq_true rfl) hcs (kqI (fun N68 r68 => ?_))
          refine r_is (nI (rankN (goP (upd S (29 + k) (nI j)) n m) k n)) (by rw [t3.rank hk]) ?_
          refine r_iload_n (pc := 71) dX5_cushionFor_71 rfl ?_
          refine r_icmp_gt (tgt := 78) (pc := 72) dX5_cushionFor_72 (by decide) (fun h72 => ?_) (fun h72 => ?_)
          · first | refine r_inc [_, _, _, _, _] (pc := 78) dX5_cushionFor_78 rfl (nI_inc _) (by decide) rfl rfl ?_ | refine r_inc [_, _, _, _, _] (pc := 78) dX5_cushionFor_78 rfl rfl (by decide) rfl rfl ?_
            refine r_goto (tgt := 33) (pc := 81) dX5_cushionFor_81 (by decide) ?_
            exact V.bk (ih (j + 1, N68) ⟨by dsimp only; omega, ff.trans r68.fpp, lt_s hi (fun z => z h72)⟩ (by dsimp only; omega)) rfl (by (repeat (first | exact wk_0 | refine wk_n ?_ | refine wk_s rfl ?_)); done)
          · refine r_iload (pc := 75) dX5_cushionFor_75 rfl ?_
            exact r_iret (pc := 77) dX5_cushionFor_77 rfl (by subst hPP; exact (Or.inr ⟨k, q, m, hk, hqb, hmb, rfl, rfl, rfl, nI j, Or.inl ⟨j, by omega, h72, hi, rfl⟩, rfl, ff.trans r68.fpp⟩))
      · have g24 : ¬ rgG 0 30 z := fun z => h24 (rg_mpr z (by omega))
        refine r_ldc (pc := 27) dX5_cushionFor_27 lk_X5_67 ?_
        exact r_iret (pc := 29) dX5_cushionFor_29 rfl (by subst hPP; exact (Or.inl ⟨by first | exact fun z => g5 z.1 | exact fun z => g14 z.2.1 | exact fun z => g24 z.2.2, rfl, rfl⟩))
set_option maxHeartbeats 4000000 in
set_option maxRecDepth 100000 in
theorem c_X5_climb (l : Launch) (G : Gx) (M : Mem) (x : Int32) (S : Nat → Int32) (n : Nat) (hm : ms 18 n S M) (hR : Rg n S) : Con l G yX5_climb cX5_climb 4 (some .int) 3 65 [.ref (gA G 14), .int x] M (fun v M' => (¬ (chG n x) ∧ rI cBad M v M') ∨ (∃ k, k < n ∧ x = nI k ∧ qI (clN S k n) (fpc M) v M')) := by
  refine Con.ofV [some (.ref (gA G 14)), some (.int x), none, none] RX5 (by decide) rfl (Nat.le_of_ble_eq_true rfl) rfl ?_
  intro κ hl hG hk0 hn0
  subst hl hG
  have hcs : κ.k ≤ 0 ∧ κ.n ≤ 0 := ⟨Nat.le_of_eq hk0, Nat.le_of_eq hn0⟩
  generalize hPP : (fun v M' => (¬ (chG n x) ∧ rI cBad M v M') ∨ (∃ k, k < n ∧ x = nI k ∧ qI (clN S k n) (fpc M) v M')) = PP
  have hn := hm.1
  have hn6 := hR.1
  refine r_aload_n (pc := 0) dX5_climb_0 rfl ?_
  refine r_iload_n (pc := 1) dX5_climb_1 rfl ?_
  refine iv_X5_165 (c_X5_isChair _ _ _ _) (pc := 2) dX5_climb_2 rfl ⟨Nat.le_of_ble_eq_true rfl, Nat.le_of_ble_eq_true rfl⟩ (Nat.le_of_ble_eq_true rfl) hcs (kI ?_)
  refine r_ifne_b (tgt := 11) (pc := 5) dX5_climb_5 (by decide) (fun h5 => ?_) (fun h5 => ?_)
  · obtain ⟨k, hk, rfl⟩ := ch_mp hn hn6 h5
    obtain ⟨f, hf, ef⟩ := rank_all S (n := n) (r := 0) (by omega)
    have hcl := cl_is hR hk hf ef
    refine r_aload_n (pc := 11) dX5_climb_11 rfl ?_
    refine gf_X5_25 (pc := 12) dX5_climb_12 rfl ?_
    refine r_iconst (v := nI 0) (pc := 15) dX5_climb_15 (by decide) ?_
    refine iv_X5_162 (c_X2_atRank_18 _ _ _ 0 S n hm hR (by omega)) (pc := 16) dX5_climb_16 rfl ⟨Nat.le_of_ble_eq_true rfl, Nat.le_of_ble_eq_true rfl⟩ (Nat.le_of_ble_eq_true rfl) hcs (kqI (fun N16 r16 => ?_))
    refine r_is (nI f) (by rw [← ef]; exact atN_r S hf hn6) ?_
    refine r_st_n [_, _, _, _] (pc := 19) dX5_climb_19 (by decide) rfl rfl ?_
    refine r_aload_n (pc := 20) dX5_climb_20 rfl ?_
    refine gf_X5_25 (pc := 21) dX5_climb_21 rfl ?_
    refine r_iload_n (pc := 24) dX5_climb_24 rfl ?_
    refine iv_X5_201 (c_X2_highOf_18 _ _ _ f S n (r16.ms hm) hR hf) (pc := 25) dX5_climb_25 rfl ⟨Nat.le_of_ble_eq_true rfl, Nat.le_of_ble_eq_true rfl⟩ (Nat.le_of_ble_eq_true rfl) hcs (kI ?_)
    refine r_aload_n (pc := 28) dX5_climb_28 rfl ?_
    refine gf_X5_25 (pc := 29) dX5_climb_29 rfl ?_
    refine r_iload_n (pc := 32) dX5_climb_32 rfl ?_
    refine iv_X5_201 (c_X2_highOf_18 _ _ _ k S n (r16.ms hm) hR hk) (pc := 33) dX5_climb_33 rfl ⟨Nat.le_of_ble_eq_true rfl, Nat.le_of_ble_eq_true rfl⟩ (Nat.le_of_ble_eq_true rfl) hcs (kI ?_)
    refine r_isub (pc := 36) dX5_climb_36 ?_
    refine r_st_n [_, _, _, _] (pc := 37) dX5_climb_37 (by decide) rfl rfl ?_
    refine r_iload_n (pc := 38) dX5_climb_38 rfl ?_
    refine r_iload_n (pc := 39) dX5_climb_39 rfl ?_
    refine r_icmp_ge (tgt := 49) (pc := 40) dX5_climb_40 (by decide) (fun h40 => ?_) (fun h40 => ?_)
    · refine r_iload_n (pc := 49) dX5_climb_49 rfl ?_
      exact r_iret (pc := 50) dX5_climb_50 rfl (by subst hPP; exact (by first | exact Or.inr ⟨k, hk, rfl, by rw [← hcl, if_pos h40], r16.fpn⟩ | exact Or.inr ⟨k, hk, rfl, by rw [← hcl, if_neg h40], r16.fpn⟩))
    · refine r_iload_n (pc := 43) dX5_climb_43 rfl ?_
      refine r_iconst (v := nI 1) (pc := 44) dX5_climb_44 (by decide) ?_
      first | with_reducible refine r_iaddN (pc := 45) dX5_climb_45 ?_ | refine r_iadd (pc := 45) dX5_climb_45 ?_
      refine r_goto (tgt := 50) (pc := 46) dX5_climb_46 (by decide) ?_
      exact r_iret (pc := 50) dX5_climb_50 rfl (by subst hPP; exact (by first | exact Or.inr ⟨k, hk, rfl, by rw [← hcl, if_pos h40], r16.fpn⟩ | exact Or.inr ⟨k, hk, rfl, by rw [← hcl, if_neg h40], r16.fpn⟩))
  · have g5 : ¬ chG n x := fun z => h5 (ch_mpr hn hn6 z)
    refine r_ldc (pc := 8) dX5_climb_8 lk_X5_67 ?_
    exact r_iret (pc := 10) dX5_climb_10 rfl (by subst hPP; exact (Or.inl ⟨by first | exact fun z => g5 z, rfl, rfl⟩))
set_option maxHeartbeats 4000000 in
set_option maxRecDepth 100000 in
theorem c_X5_sawnBy (l : Launch) (G : Gx) (M : Mem) (x : Int32) (S : Nat → Int32) (n : Nat) (hm : ms 18 n S M) (hR : Rg n S) : Con l G yX5_sawnBy cX5_sawnBy 4 (some .int) 3 65 [.ref (gA G 14), .int x] M (fun v M' => (¬ (chG n x) ∧ rI cBad M v M') ∨ (∃ k, k < n ∧ x = nI k ∧ qI (sbN S n k n) (fpc M) v M')) := by
  refine Con.ofV [some (.ref (gA G 14)), some (.int x), none, none] RX5 (by decide) rfl (Nat.le_of_ble_eq_true rfl) rfl ?_
  intro κ hl hG hk0 hn0
  subst hl hG
  have hcs : κ.k ≤ 0 ∧ κ.n ≤ 0 := ⟨Nat.le_of_eq hk0, Nat.le_of_eq hn0⟩
  generalize hPP : (fun v M' => (¬ (chG n x) ∧ rI cBad M v M') ∨ (∃ k, k < n ∧ x = nI k ∧ qI (sbN S n k n) (fpc M) v M')) = PP
  have hn := hm.1
  have hn6 := hR.1
  refine r_aload_n (pc := 0) dX5_sawnBy_0 rfl ?_
  refine r_iload_n (pc := 1) dX5_sawnBy_1 rfl ?_
  refine iv_X5_165 (c_X5_isChair _ _ _ _) (pc := 2) dX5_sawnBy_2 rfl ⟨Nat.le_of_ble_eq_true rfl, Nat.le_of_ble_eq_true rfl⟩ (Nat.le_of_ble_eq_true rfl) hcs (kI ?_)
  refine r_ifne_b (tgt := 11) (pc := 5) dX5_sawnBy_5 (by decide) (fun h5 => ?_) (fun h5 => ?_)
  · obtain ⟨k, hk, rfl⟩ := ch_mp hn hn6 h5
    refine r_iconst (v := nI 0) (pc := 11) dX5_sawnBy_11 (by decide) ?_
    refine r_st_n [_, _, _, _] (pc := 12) dX5_sawnBy_12 (by decide) rfl rfl ?_
    refine r_iconst (v := nI 0) (pc := 13) dX5_sawnBy_13 (by decide) ?_
    refine r_st_n [_, _, _, _] (pc := 14) dX5_sawnBy_14 (by decide) rfl rfl ?_
    refine V.bk (loopV (fun (σ : Nat × Mem) => V κ cX5_sawnBy RX5 4 (some .int) (rmx 3 65) (QM κ PP) (σ.2) 15 [some (.ref (gA κ.G 14)), some (.int (nI k)), some (.int (sbN S n k (σ.1))), some (.int (nI (σ.1)))] []) (fun (σ : Nat × Mem) => (σ.1) ≤ n ∧ fr3 18 M (σ.2)) (fun (σ : Nat × Mem) => n - (σ.1)) ?_ (0, M) ⟨Nat.zero_le _, fr3.refl _ _⟩) rfl (by (repeat (first | exact wk_0 | refine wk_n ?_ | refine wk_s rfl ?_)); done)
    rintro ⟨j, N⟩ hI0 ih
    dsimp only at hI0 ih
    obtain ⟨hj, hf⟩ := hI0
    show V κ cX5_sawnBy RX5 4 (some .int) (rmx 3 65) (QM κ PP) N 15 [some (.ref (gA κ.G 14)), some (.int (nI k)), some (.int (sbN S n k j)), some (.int (nI j))] []
    refine r_iload_n (pc := 15) dX5_sawnBy_15 rfl ?_
    refine r_aload_n (pc := 16) dX5_sawnBy_16 rfl ?_
    refine gf_X5_25 (pc := 17) dX5_sawnBy_17 rfl ?_
    refine gf_X5_140 (pc := 20) dX5_sawnBy_20 rfl ?_
    refine r_is (nI n) (by first | exact hn | exact (hf.ms hm).1) ?_
    refine r_icmp_ge (tgt := 50) (pc := 23) dX5_sawnBy_23 (by decide) (fun h23 => ?_) (fun h23 => ?_)
    · have h23 : n ≤ j := (nI_leI (by omega) (by omega)).mp h23
      obtain rfl : n = j := by omega
      refine r_iload_n (pc := 50) dX5_sawnBy_50 rfl ?_
      exact r_iret (pc := 51) dX5_sawnBy_51 rfl (by subst hPP; exact (Or.inr ⟨k, hk, rfl, rfl, hf.fpn⟩))
    · have h23 : j < n := Nat.not_le.mp (fun z => h23 ((nI_leI (by omega) (by omega)).mpr z))
      refine r_aload_n (pc := 26) dX5_sawnBy_26 rfl ?_
      refine gf_X5_25 (pc := 27) dX5_sawnBy_27 rfl ?_
      refine r_iload_n (pc := 30) dX5_sawnBy_30 rfl ?_
      refine iv_X5_195 (c_X2_preyOf_18 _ _ _ j S n (hf.ms hm) hR (by omega)) (pc := 31) dX5_sawnBy_31 rfl ⟨Nat.le_of_ble_eq_true rfl, Nat.le_of_ble_eq_true rfl⟩ (Nat.le_of_ble_eq_true rfl) hcs (kqI (fun N31 r31 => ?_))
      refine r_iload_n (pc := 34) dX5_sawnBy_34 rfl ?_
      refine r_icmp_ne (tgt := 44) (pc := 35) dX5_sawnBy_35 (by decide) (fun h35 => ?_) (fun h35 => ?_)
      · have e9 : sbN S n k (j + 1) = sbN S n k j := by rw [sbN, if_neg h35, or0]
        first | refine r_inc [_, _, _, _] (pc := 44) dX5_sawnBy_44 rfl (nI_inc _) (by decide) rfl rfl ?_ | refine r_inc [_, _, _, _] (pc := 44) dX5_sawnBy_44 rfl rfl (by decide) rfl rfl ?_
        refine r_goto (tgt := 15) (pc := 47) dX5_sawnBy_47 (by decide) ?_
        refine V.bk (ih (j + 1, N31) ⟨by dsimp only; omega, hf.trans r31⟩ (by dsimp only; omega)) rfl ?_
        dsimp only
        rw [e9]
        repeat (first | exact wk_0 | refine wk_n ?_ | refine wk_s rfl ?_)
      · have e9 : sbN S n k (j + 1) = sbN S n k j ||| nI 1 <<< (nI j &&& 31) := by rw [sbN, if_pos h35]
        refine r_iload_n (pc := 38) dX5_sawnBy_38 rfl ?_
        refine r_iconst (v := nI 1) (pc := 39) dX5_sawnBy_39 (by decide) ?_
        refine r_iload_n (pc := 40) dX5_sawnBy_40 rfl ?_
        refine r_ishl (pc := 41) dX5_sawnBy_41 ?_
        refine r_ior (pc := 42) dX5_sawnBy_42 ?_
        refine r_st_n [_, _, _, _] (pc := 43) dX5_sawnBy_43 (by decide) rfl rfl ?_
        first | refine r_inc [_, _, _, _] (pc := 44) dX5_sawnBy_44 rfl (nI_inc _) (by decide) rfl rfl ?_ | refine r_inc [_, _, _, _] (pc := 44) dX5_sawnBy_44 rfl rfl (by decide) rfl rfl ?_
        refine r_goto (tgt := 15) (pc := 47) dX5_sawnBy_47 (by decide) ?_
        refine V.bk (ih (j + 1, N31) ⟨by dsimp only; omega, hf.trans r31⟩ (by dsimp only; omega)) rfl ?_
        dsimp only
        rw [e9]
        repeat (first | exact wk_0 | refine wk_n ?_ | refine wk_s rfl ?_)
  · have g5 : ¬ chG n x := fun z => h5 (ch_mpr hn hn6 z)
    refine r_ldc (pc := 8) dX5_sawnBy_8 lk_X5_67 ?_
    exact r_iret (pc := 10) dX5_sawnBy_10 rfl (by subst hPP; exact (Or.inl ⟨by first | exact fun z => g5 z, rfl, rfl⟩))
set_option maxHeartbeats 4000000 in
set_option maxRecDepth 100000 in
theorem c_X5_round (l : Launch) (G : Gx) (M : Mem) (S : Nat → Int32) (n : Nat) (hm : ms 18 n S M) (hR : Rg n S) : Con l G yX5_round cX5_round 4 (some .int) 3 65 [.ref (gA G 14)] M (fun v M' => (n = 0 ∧ rI cState M v M') ∨ (0 < n ∧ qI (rdN S n n) (fpc M) v M')) := by
  refine Con.ofV [some (.ref (gA G 14)), none, none, none] RX5 (by decide) rfl (Nat.le_of_ble_eq_true rfl) rfl ?_
  intro κ hl hG hk0 hn0
  subst hl hG
  have hcs : κ.k ≤ 0 ∧ κ.n ≤ 0 := ⟨Nat.le_of_eq hk0, Nat.le_of_eq hn0⟩
  generalize hPP : (fun v M' => (n = 0 ∧ rI cState M v M') ∨ (0 < n ∧ qI (rdN S n n) (fpc M) v M')) = PP
  have hn := hm.1
  have hn6 := hR.1
  refine r_aload_n (pc := 0) dX5_round_0 rfl ?_
  refine iv_X5_149 (c_X5_isEmpty _ _ _ n (by first | assumption | exact hm.1) hn6) (pc := 1) dX5_round_1 rfl ⟨Nat.le_of_ble_eq_true rfl, Nat.le_of_ble_eq_true rfl⟩ (Nat.le_of_ble_eq_true rfl) hcs (kI ?_)
  refine r_ifeq_b (tgt := 10) (pc := 4) dX5_round_4 (by decide) (fun h4 => ?_) (fun h4 => ?_)
  · have hn1 : 0 < n := Nat.pos_of_ne_zero h4
    refine r_iconst (v := nI 0) (pc := 10) dX5_round_10 (by decide) ?_
    refine r_st_n [_, _, _, _] (pc := 11) dX5_round_11 (by decide) rfl rfl ?_
    refine r_iconst (v := nI 0) (pc := 12) dX5_round_12 (by decide) ?_
    refine r_st_n [_, _, _, _] (pc := 13) dX5_round_13 (by decide) rfl rfl ?_
    refine V.bk (loopV (fun (σ : Nat × Mem) => V κ cX5_round RX5 4 (some .int) (rmx 3 65) (QM κ PP) (σ.2) 14 [some (.ref (gA κ.G 14)), some (.int (rdN S n (σ.1))), some (.int (nI (σ.1))), none] []) (fun (σ : Nat × Mem) => (σ.1) ≤ n ∧ fr3 18 M (σ.2)) (fun (σ : Nat × Mem) => n - (σ.1)) ?_ (0, M) ⟨Nat.zero_le _, fr3.refl _ _⟩) rfl (by (repeat (first | exact wk_0 | refine wk_n ?_ | refine wk_s rfl ?_)); done)
    rintro ⟨j, N⟩ hI0 ih
    dsimp only at hI0 ih
    obtain ⟨hj, hf⟩ := hI0
    show V κ cX5_round RX5 4 (some .int) (rmx 3 65) (QM κ PP) N 14 [some (.ref (gA κ.G 14)), some (.int (rdN S n j)), some (.int (nI j)), none] []
    refine r_iload_n (pc := 14) dX5_round_14 rfl ?_
    refine r_aload_n (pc := 15) dX5_round_15 rfl ?_
    refine gf_X5_25 (pc := 16) dX5_round_16 rfl ?_
    refine gf_X5_140 (pc := 19) dX5_round_19 rfl ?_
    refine r_is (nI n) (by first | exact hn | exact (hf.ms hm).1) ?_
    refine r_icmp_ge (tgt := 64) (pc := 22) dX5_round_22 (by decide) (fun h22 => ?_) (fun h22 => ?_)
    · have h22 : n ≤ j := (nI_leI (by omega) (by omega)).mp h22
      obtain rfl : n = j := by omega
      refine r_iload_n (pc := 64) dX5_round_64 rfl ?_
      exact r_iret (pc := 65) dX5_round_65 rfl (by subst hPP; exact (Or.inr ⟨hn1, rfl, hf.fpn⟩))
    · have h22 : j < n := Nat.not_le.mp (fun z => h22 ((nI_leI (by omega) (by omega)).mpr z))
      refine r_aload_n (pc := 25) dX5_round_25 rfl ?_
      refine gf_X5_25 (pc := 26) dX5_round_26 rfl ?_
      refine r_iload_n (pc := 29) dX5_round_29 rfl ?_
      refine iv_X5_195 (c_X2_preyOf_18 _ _ _ j S n (hf.ms hm) hR (by omega)) (pc := 30) dX5_round_30 rfl ⟨Nat.le_of_ble_eq_true rfl, Nat.le_of_ble_eq_true rfl⟩ (Nat.le_of_ble_eq_true rfl) hcs (kqI (fun N30 r30 => ?_))
      refine r_st_n [_, _, _, _] (pc := 33) dX5_round_33 (by decide) rfl rfl ?_
      refine r_iload_n (pc := 34) dX5_round_34 rfl ?_
      refine r_ldc (pc := 35) dX5_round_35 lk_X5_219 ?_
      refine r_icmp_eq (tgt := 58) (pc := 37) dX5_round_37 (by decide) (fun h37 => ?_) (fun h37 => ?_)
      · have e9 : rdN S n (j + 1) = rdN S n j := by rw [rdN, if_neg (by rw [h37]; rintro ⟨z, -⟩; exact z (by decide)), or0]
        have ff := hf.trans r30
        first | refine r_inc [_, _, _, _] (pc := 58) dX5_round_58 rfl (nI_inc _) (by decide) rfl rfl ?_ | refine r_inc [_, _, _, _] (pc := 58) dX5_round_58 rfl rfl (by decide) rfl rfl ?_
        refine r_goto (tgt := 14) (pc := 61) dX5_round_61 (by decide) ?_
        refine V.bk (ih (j + 1, _) ⟨by dsimp only; omega, ff⟩ (by dsimp only; omega)) rfl ?_
        dsimp only
        rw [e9]
        repeat (first | exact wk_0 | refine wk_n ?_ | refine wk_s rfl ?_)
      · obtain ⟨d, hd, ht⟩ : ∃ d, d < n ∧ tgtS S n j = nI d := by
          rcases tgt_case (S := S) (c := j) hn1 hn6 with z | ⟨d, hd, e, -⟩
          · exact absurd z.1 h37
          · exact ⟨d, hd, e⟩
        have hcl : (tgtS S n j).toNatClampNeg = d := by rw [ht]; exact nI_clamp (by omega)
        refine V.bk (f' := [some (.ref (gA κ.G 14)), some (.int (rdN S n j)), some (.int (nI j)), some (.int (nI d))]) ?_ rfl (by rw [ht]; (repeat (first | exact wk_0 | refine wk_n ?_ | refine wk_s rfl ?_)); done)
        refine r_aload_n (pc := 40) dX5_round_40 rfl ?_
        refine gf_X5_25 (pc := 41) dX5_round_41 rfl ?_
        refine r_iload_n (pc := 44) dX5_round_44 rfl ?_
        refine iv_X5_195 (c_X2_preyOf_18 _ _ _ d S n (r30.ms (hf.ms hm)) hR hd) (pc := 45) dX5_round_45 rfl ⟨Nat.le_of_ble_eq_true rfl, Nat.le_of_ble_eq_true rfl⟩ (Nat.le_of_ble_eq_true rfl) hcs (kqI (fun N45 r45 => ?_))
        refine r_iload_n (pc := 48) dX5_round_48 rfl ?_
        refine r_icmp_ne (tgt := 58) (pc := 49) dX5_round_49 (by decide) (fun h49 => ?_) (fun h49 => ?_)
        · have e9 : rdN S n (j + 1) = rdN S n j := by rw [rdN, if_neg (by rw [hcl]; exact fun z => h49 z.2), or0]
          have ff := (hf.trans r30).trans r45
          first | refine r_inc [_, _, _, _] (pc := 58) dX5_round_58 rfl (nI_inc _) (by decide) rfl rfl ?_ | refine r_inc [_, _, _, _] (pc := 58) dX5_round_58 rfl rfl (by decide) rfl rfl ?_
          refine r_goto (tgt := 14) (pc := 61) dX5_round_61 (by decide) ?_
          refine V.bk (ih (j + 1, _) ⟨by dsimp only; omega, ff⟩ (by dsimp only; omega)) rfl ?_
          dsimp only
          rw [e9]
          repeat (first | exact wk_0 | refine wk_n ?_ | refine wk_s rfl ?_)
        · have e9 : rdN S n (j + 1) = rdN S n j ||| nI 1 <<< (nI j &&& 31) := by rw [rdN, if_pos ⟨by rw [ht]; exact nI_pos (by omega), by rw [hcl]; exact h49⟩]
          have ff := (hf.trans r30).trans r45
          refine r_iload_n (pc := 52) dX5_round_52 rfl ?_
          refine r_iconst (v := nI 1) (pc := 53) dX5_round_53 (by decide) ?_
          refine r_iload_n (pc := 54) dX5_round_54 rfl ?_
          refine r_ishl (pc := 55) dX5_round_55 ?_
          refine r_ior (pc := 56) dX5_round_56 ?_
          refine r_st_n [_, _, _, _] (pc := 57) dX5_round_57 (by decide) rfl rfl ?_
          first | refine r_inc [_, _, _, _] (pc := 58) dX5_round_58 rfl (nI_inc _) (by decide) rfl rfl ?_ | refine r_inc [_, _, _, _] (pc := 58) dX5_round_58 rfl rfl (by decide) rfl rfl ?_
          refine r_goto (tgt := 14) (pc := 61) dX5_round_61 (by decide) ?_
          refine V.bk (ih (j + 1, _) ⟨by dsimp only; omega, ff⟩ (by dsimp only; omega)) rfl ?_
          dsimp only
          rw [e9]
          repeat (first | exact wk_0 | refine wk_n ?_ | refine wk_s rfl ?_)
  · have g4 : n = 0 := h4
    refine r_ldc (pc := 7) dX5_round_7 lk_X5_148 ?_
    exact r_iret (pc := 9) dX5_round_9 rfl (by subst hPP; exact (Or.inl ⟨g4, rfl, rfl⟩))
set_option maxHeartbeats 4000000 in
set_option maxRecDepth 100000 in
theorem c_X5_enemy (l : Launch) (G : Gx) (M : Mem) (x y z : Int32) (S : Nat → Int32) (n : Nat) (hm : ms 18 n S M) (hR : Rg n S) : Con l G yX5_enemy cX5_enemy 8 (some .int) 4 129 [.ref (gA G 14), .int x, .int y, .int z] M (fun v M' => (¬ (chG n x ∧ rgG 1 30 y ∧ rgG 0 1 z) ∧ rI cBad M v M') ∨ (∃ k q p, k < n ∧ 1 ≤ q ∧ q ≤ 30 ∧ p ≤ 1 ∧ x = nI k ∧ y = nI q ∧ z = nI p ∧ qI (if p = 0 then (bwB (fun i => highS (goP (upd S (17 + i) (nI 0)) n q) k) n).1 else (bwB (fun i => highS (goP (upd S (17 + i) (nI 0)) n q) k) n).2) (fpc M) v M')) := by
  refine Con.ofV [some (.ref (gA G 14)), some (.int x), some (.int y), some (.int z), none, none, none, none] RX5 (by decide) rfl (Nat.le_of_ble_eq_true rfl) rfl ?_
  intro κ hl hG hk0 hn0
  subst hl hG
  have hcs : κ.k ≤ 0 ∧ κ.n ≤ 0 := ⟨Nat.le_of_eq hk0, Nat.le_of_eq hn0⟩
  generalize hPP : (fun v M' => (¬ (chG n x ∧ rgG 1 30 y ∧ rgG 0 1 z) ∧ rI cBad M v M') ∨ (∃ k q p, k < n ∧ 1 ≤ q ∧ q ≤ 30 ∧ p ≤ 1 ∧ x = nI k ∧ y = nI q ∧ z = nI p ∧ qI (if p = 0 then (bwB (fun i => highS (goP (upd S (17 + i) (nI 0)) n q) k) n).1 else (bwB (fun i => highS (goP (upd S (17 + i) (nI 0)) n q) k) n).2) (fpc M) v M')) = PP
  have hn := hm.1
  have hn6 := hR.1
  refine r_aload_n (pc := 0) dX5_enemy_0 rfl ?_
  refine r_iload_n (pc := 1) dX5_enemy_1 rfl ?_
  refine iv_X5_165 (c_X5_isChair _ _ _ _) (pc := 2) dX5_enemy_2 rfl ⟨Nat.le_of_ble_eq_true rfl, Nat.le_of_ble_eq_true rfl⟩ (Nat.le_of_ble_eq_true rfl) hcs (kI ?_)
  refine r_ifeq_b (tgt := 27) (pc := 5) dX5_enemy_5 (by decide) (fun h5 => ?_) (fun h5 => ?_)
  · have g5 : ¬ chG n x := fun z => h5 (ch_mpr hn hn6 z)
    refine r_ldc (pc := 27) dX5_enemy_27 lk_X5_67 ?_
    exact r_iret (pc := 29) dX5_enemy_29 rfl (by subst hPP; exact (Or.inl ⟨by first | exact fun z => g5 z.1 | exact fun z => g15 z.2.1 | exact fun z => g24 z.2.2, rfl, rfl⟩))
  · obtain ⟨k, hk, rfl⟩ := ch_mp hn hn6 h5
    refine r_iload_n (pc := 8) dX5_enemy_8 rfl ?_
    refine r_iconst (v := nI 1) (pc := 9) dX5_enemy_9 (by decide) ?_
    refine r_bipush (v := nI 30) (pc := 10) dX5_enemy_10 (by decide) ?_
    refine iv_X5_63 (c_X5_within _ _ _ _ _ _) (pc := 12) dX5_enemy_12 ⟨Nat.le_of_ble_eq_true rfl, Nat.le_of_ble_eq_true rfl⟩ (Nat.le_of_ble_eq_true rfl) hcs (kI ?_)
    refine r_ifeq_b (tgt := 27) (pc := 15) dX5_enemy_15 (by decide) (fun h15 => ?_) (fun h15 => ?_)
    · have g15 : ¬ rgG 1 30 y := fun z => h15 (rg_mpr z (by omega))
      refine r_ldc (pc := 27) dX5_enemy_27 lk_X5_67 ?_
      exact r_iret (pc := 29) dX5_enemy_29 rfl (by subst hPP; exact (Or.inl ⟨by first | exact fun z => g5 z.1 | exact fun z => g15 z.2.1 | exact fun z => g24 z.2.2, rfl, rfl⟩))
    · obtain ⟨q, hqa, hqb, rfl⟩ := rg_mp (a := 1) (b := 30) h15 (by omega) (by omega)
      refine r_iload_n (pc := 18) dX5_enemy_18 rfl ?_
      refine r_iconst (v := nI 0) (pc := 19) dX5_enemy_19 (by decide) ?_
      refine r_iconst (v := nI 1) (pc := 20) dX5_enemy_20 (by decide) ?_
      refine iv_X5_63 (c_X5_within _ _ _ _ _ _) (pc := 21) dX5_enemy_21 ⟨Nat.le_of_ble_eq_true rfl, Nat.le_of_ble_eq_true rfl⟩ (Nat.le_of_ble_eq_true rfl) hcs (kI ?_)
      refine r_ifne_b (tgt := 30) (pc := 24) dX5_enemy_24 (by decide) (fun h24 => ?_) (fun h24 => ?_)
      · obtain ⟨p, hpa, hpb, rfl⟩ := rg_mp (a := 0) (b := 1) h24 (by omega) (by omega)
        refine r_iconst (v := (-1)) (pc := 30) dX5_enemy_30 (by decide) ?_
        refine r_st [_, _, _, _, _, _, _, _] (pc := 31) dX5_enemy_31 (by decide) rfl rfl ?_
        refine r_ldc (pc := 33) dX5_enemy_33 lk_X5_219 ?_
        refine r_st [_, _, _, _, _, _, _, _] (pc := 35) dX5_enemy_35 (by decide) rfl rfl ?_
        refine r_iconst (v := nI 0) (pc := 37) dX5_enemy_37 (by decide) ?_
        refine r_st [_, _, _, _, _, _, _, _] (pc := 38) dX5_enemy_38 (by decide) rfl rfl ?_
        refine V.bk (loopV (fun (σ : Nat × Int32 × Int32 × Mem) => V κ cX5_enemy RX5 8 (some .int) (rmx 4 129) (QM κ PP) (σ.2.2.2) 40 [some (.ref (gA κ.G 14)), some (.int (nI k)), some (.int (nI q)), some (.int (nI p)), some (.int (σ.2.2.1)), some (.int (σ.2.1)), some (.int (nI (σ.1))), none] []) (fun (σ : Nat × Int32 × Int32 × Mem) => (σ.1) ≤ n ∧ fpc M (σ.2.2.2) ∧ bwI (fun i => highS (goP (upd S (17 + i) (nI 0)) n q) k) (σ.1) (σ.2.1) (σ.2.2.1)) (fun (σ : Nat × Int32 × Int32 × Mem) => n - (σ.1)) ?_ (0, cNone, -1, M) ⟨Nat.zero_le _, fpc.refl _, Or.inl ⟨rfl, rfl, rfl⟩⟩) rfl (by (repeat (first | exact wk_0 | refine wk_n ?_ | refine wk_s rfl ?_)); done)
        rintro ⟨j, u, t, N⟩ hI0 ih
        dsimp only at hI0 ih
        obtain ⟨hj, hf, hB⟩ := hI0
        show V κ cX5_enemy RX5 8 (some .int) (rmx 4 129) (QM κ PP) N 40 [some (.ref (gA κ.G 14)), some (.int (nI k)), some (.int (nI q)), some (.int (nI p)), some (.int t), some (.int u), some (.int (nI j)), none] []
        refine r_iload (pc := 40) dX5_enemy_40 rfl ?_
        refine r_aload_n (pc := 42) dX5_enemy_42 rfl ?_
        refine gf_X5_25 (pc := 43) dX5_enemy_43 rfl ?_
        refine gf_X5_140 (pc := 46) dX5_enemy_46 rfl ?_
        refine r_is (nI n) (by first | exact hn | exact (hf.ms hm).1) ?_
        refine r_icmp_ge (tgt := 106) (pc := 49) dX5_enemy_49 (by decide) (fun h49 => ?_) (fun h49 => ?_)
        · have h49 : n ≤ j := (nI_leI (by omega) (by omega)).mp h49
          obtain rfl : n = j := by omega
          obtain ⟨-, hu, ht2⟩ := hB.resolve_left (fun z => by omega)
          refine r_iload_n (pc := 106) dX5_enemy_106 rfl ?_
          refine r_if_ne (tgt := 115) (pc := 107) dX5_enemy_107 (by decide) (fun h107 => ?_) (fun h107 => ?_)
          · have h107 : p ≠ 0 := fun z => h107 (by rw [z]; rfl)
            refine r_iload (pc := 115) dX5_enemy_115 rfl ?_
            exact r_iret (pc := 117) dX5_enemy_117 rfl (by subst hPP; exact (by first | exact Or.inr ⟨k, q, p, hk, hqa, hqb, hpb, rfl, rfl, rfl, by rw [if_pos h107, hu], hf⟩ | exact Or.inr ⟨k, q, p, hk, hqa, hqb, hpb, rfl, rfl, rfl, by rw [if_neg h107, ht2], hf⟩))
          · have h107 : p = 0 := (nI_eq (by omega) (by omega)).mp (h107.trans nI_0.symm)
            refine r_iload (pc := 110) dX5_enemy_110 rfl ?_
            refine r_goto (tgt := 117) (pc := 112) dX5_enemy_112 (by decide) ?_
            exact r_iret (pc := 117) dX5_enemy_117 rfl (by subst hPP; exact (by first | exact Or.inr ⟨k, q, p, hk, hqa, hqb, hpb, rfl, rfl, rfl, by rw [if_pos h107, hu], hf⟩ | exact Or.inr ⟨k, q, p, hk, hqa, hqb, hpb, rfl, rfl, rfl, by rw [if_neg h107, ht2], hf⟩))
        · have h49 : j < n := Nat.not_le.mp (fun z => h49 ((nI_leI (by omega) (by omega)).mpr z))
          refine r_aload_n (pc := 52) dX5_enemy_52 rfl ?_
          refine iv_X5_213 (c_X5_foresee _ _ _ S n (hf.ms hm) hR) (pc := 53) dX5_enemy_53 rfl ⟨Nat.le_of_ble_eq_true rfl, Nat.le_of_ble_eq_true rfl⟩ (Nat.le_of_ble_eq_true rfl) hcs (kqV (fun N53 r53 => ?_))
          refine r_aload_n (pc := 56) dX5_enemy_56 rfl ?_
          refine gf_X5_29 (pc := 57) dX5_enemy_57 rfl ?_
          refine gf_X5_198 (pc := 60) dX5_enemy_60 rfl ?_
          refine r_iload (pc := 63) dX5_enemy_63 rfl ?_
          refine r_iconst (v := nI 0) (pc := 65) dX5_enemy_65 (by decide) ?_
          refine r_iast (pc := 66) dX5_enemy_66 rfl (show _ < 6 by omega) ?_
          refine r_aload_n (pc := 67) dX5_enemy_67 rfl ?_
          refine gf_X5_29 (pc := 68) dX5_enemy_68 rfl ?_
          refine r_iload_n (pc := 71) dX5_enemy_71 rfl ?_
          refine iv_X5_216 (c_X2_passNights_28 _ _ _ q (by omega) (upd S (17 + j) (nI 0)) n (r53.2.put (j := 4) (p := 17) (by omega) (by omega) hn6 _) (hR.put (by omega) (by omega)) (by omega)) (pc := 72) dX5_enemy_72 rfl ⟨Nat.le_of_ble_eq_true rfl, Nat.le_of_ble_eq_true rfl⟩ (Nat.le_of_ble_eq_true rfl) hcs (kqV (fun N72 r72 => ?_))
          obtain ⟨f72, T, t1, t2, t3⟩ := r72
          have ff := ((hf.trans r53.1).put 32 j (nI 0) (by omega) (by omega)).trans f72.fpp
          have hnn : 0 ≤ (fun i => highS (goP (upd S (17 + i) (nI 0)) n q) k) j := high_nn ((hR.put (p := 17) (k := j) (v := 0) (by omega) (by omega)).go (by omega) q) hk
          refine r_aload_n (pc := 75) dX5_enemy_75 rfl ?_
          refine gf_X5_29 (pc := 76) dX5_enemy_76 rfl ?_
          refine r_iload_n (pc := 79) dX5_enemy_79 rfl ?_
          refine iv_X5_201 (c_X2_highOf_28 _ _ _ k T n t1 t2 hk) (pc := 80) dX5_enemy_80 rfl ⟨Nat.le_of_ble_eq_true rfl, Nat.le_of_ble_eq_true rfl⟩ (Nat.le_of_ble_eq_true rfl) hcs (kI ?_)
          refine r_is ((fun i => highS (goP (upd S (17 + i) (nI 0)) n q) k) j) (t3.high hk) ?_
          refine r_st [_, _, _, _, _, _, _, _] (pc := 83) dX5_enemy_83 (by decide) rfl rfl ?_
          refine r_iload (pc := 85) dX5_enemy_85 rfl ?_
          refine r_iload (pc := 87) dX5_enemy_87 rfl ?_
          refine r_icmp_le (tgt := 100) (pc := 89) dX5_enemy_89 (by decide) (fun h89 => ?_) (fun h89 => ?_)
          · first | refine r_inc [_, _, _, _, _, _, _, _] (pc := 100) dX5_enemy_100 rfl (nI_inc _) (by decide) rfl rfl ?_ | refine r_inc [_, _, _, _, _, _, _, _] (pc := 100) dX5_enemy_100 rfl rfl (by decide) rfl rfl ?_
            refine r_goto (tgt := 40) (pc := 103) dX5_enemy_103 (by decide) ?_
            first
              | exact V.bk (ih (j + 1, u, t, N72) ⟨by dsimp only; omega, ff, bwI_n hB hnn h89⟩ (by dsimp only; omega)) rfl (by (repeat (first | exact wk_0 | refine wk_n ?_ | refine wk_s rfl ?_)); done)
              | exact V.bk (ih (j + 1, nI j, (fun i => highS (goP (upd S (17 + i) (nI 0)) n q) k) j, N72) ⟨by dsimp only; omega, ff, bwI_y hB hnn h89⟩ (by dsimp only; omega)) rfl (by (repeat (first | exact wk_0 | refine wk_n ?_ | refine wk_s rfl ?_)); done)
          · refine r_iload (pc := 92) dX5_enemy_92 rfl ?_
            refine r_st [_, _, _, _, _, _, _, _] (pc := 94) dX5_enemy_94 (by decide) rfl rfl ?_
            refine r_iload (pc := 96) dX5_enemy_96 rfl ?_
            refine r_st [_, _, _, _, _, _, _, _] (pc := 98) dX5_enemy_98 (by decide) rfl rfl ?_
            first | refine r_inc [_, _, _, _, _, _, _, _] (pc := 100) dX5_enemy_100 rfl (nI_inc _) (by decide) rfl rfl ?_ | refine r_inc [_, _, _, _, _, _, _, _] (pc := 100) dX5_enemy_100 rfl rfl (by decide) rfl rfl ?_
            refine r_goto (tgt := 40) (pc := 103) dX5_enemy_103 (by decide) ?_
            first
              | exact V.bk (ih (j + 1, u, t, N72) ⟨by dsimp only; omega, ff, bwI_n hB hnn h89⟩ (by dsimp only; omega)) rfl (by (repeat (first | exact wk_0 | refine wk_n ?_ | refine wk_s rfl ?_)); done)
              | exact V.bk (ih (j + 1, nI j, (fun i => highS (goP (upd S (17 + i) (nI 0)) n q) k) j, N72) ⟨by dsimp only; omega, ff, bwI_y hB hnn h89⟩ (by dsimp only; omega)) rfl (by (repeat (first | exact wk_0 | refine wk_n ?_ | refine wk_s rfl ?_)); done)
      · have g24 : ¬ rgG 0 1 z := fun z => h24 (rg_mpr z (by omega))
        refine r_ldc (pc := 27) dX5_enemy_27 lk_X5_67 ?_
        exact r_iret (pc := 29) dX5_enemy_29 rfl (by subst hPP; exact (Or.inl ⟨by first | exact fun z => g5 z.1 | exact fun z => g15 z.2.1 | exact fun z => g24 z.2.2, rfl, rfl⟩))
set_option maxHeartbeats 4000000 in
set_option maxRecDepth 100000 in
theorem c_X5_bestWatch (l : Launch) (G : Gx) (M : Mem) (x y : Int32) (S : Nat → Int32) (n : Nat) (hm : ms 18 n S M) (hR : Rg n S) : Con l G yX5_bestWatch cX5_bestWatch 7 (some .int) 5 151 [.ref (gA G 14), .int x, .int y] M (fun v M' => (n = 0 ∧ rI cState M v M') ∨ (0 < n ∧ ¬ (rgG 1 30 x ∧ rgG 0 1 y) ∧ rI cBad M v M') ∨ (0 < n ∧ ∃ q p, 1 ≤ q ∧ q ≤ 30 ∧ p ≤ 1 ∧ x = nI q ∧ y = nI p ∧ qI (if p = 0 then (bwB (fun i => sumN (goP (upd S 4 (nI 1 <<< (nI i &&& 31))) n q) 11 n) n).1 else (bwB (fun i => sumN (goP (upd S 4 (nI 1 <<< (nI i &&& 31))) n q) 11 n) n).2) (fpc M) v M')) := by
  refine Con.ofV [some (.ref (gA G 14)), some (.int x), some (.int y), none, none, none, none] RX5 (by decide) rfl (Nat.le_of_ble_eq_true rfl) rfl ?_
  intro κ hl hG hk0 hn0
  subst hl hG
  have hcs : κ.k ≤ 0 ∧ κ.n ≤ 0 := ⟨Nat.le_of_eq hk0, Nat.le_of_eq hn0⟩
  generalize hPP : (fun v M' => (n = 0 ∧ rI cState M v M') ∨ (0 < n ∧ ¬ (rgG 1 30 x ∧ rgG 0 1 y) ∧ rI cBad M v M') ∨ (0 < n ∧ ∃ q p, 1 ≤ q ∧ q ≤ 30 ∧ p ≤ 1 ∧ x = nI q ∧ y = nI p ∧ qI (if p = 0 then (bwB (fun i => sumN (goP (upd S 4 (nI 1 <<< (nI i &&& 31))) n q) 11 n) n).1 else (bwB (fun i => sumN (goP (upd S 4 (nI 1 <<< (nI i &&& 31))) n q) 11 n) n).2) (fpc M) v M')) = PP
  have hn := hm.1
  have hn6 := hR.1
  refine r_aload_n (pc := 0) dX5_bestWatch_0 rfl ?_
  refine iv_X5_149 (c_X5_isEmpty _ _ _ n (by first | assumption | exact hm.1) hn6) (pc := 1) dX5_bestWatch_1 rfl ⟨Nat.le_of_ble_eq_true rfl, Nat.le_of_ble_eq_true rfl⟩ (Nat.le_of_ble_eq_true rfl) hcs (kI ?_)
  refine r_ifeq_b (tgt := 10) (pc := 4) dX5_bestWatch_4 (by decide) (fun h4 => ?_) (fun h4 => ?_)
  · have hn1 : 0 < n := Nat.pos_of_ne_zero h4
    refine r_iload_n (pc := 10) dX5_bestWatch_10 rfl ?_
    refine r_iconst (v := nI 1) (pc := 11) dX5_bestWatch_11 (by decide) ?_
    refine r_bipush (v := nI 30) (pc := 12) dX5_bestWatch_12 (by decide) ?_
    refine iv_X5_63 (c_X5_within _ _ _ _ _ _) (pc := 14) dX5_bestWatch_14 ⟨Nat.le_of_ble_eq_true rfl, Nat.le_of_ble_eq_true rfl⟩ (Nat.le_of_ble_eq_true rfl) hcs (kI ?_)
    refine r_ifeq_b (tgt := 29) (pc := 17) dX5_bestWatch_17 (by decide) (fun h17 => ?_) (fun h17 => ?_)
    · have g17 : ¬ rgG 1 30 x := fun z => h17 (rg_mpr z (by omega))
      refine r_ldc (pc := 29) dX5_bestWatch_29 lk_X5_67 ?_
      exact r_iret (pc := 31) dX5_bestWatch_31 rfl (by subst hPP; exact (Or.inr (Or.inl ⟨hn1, by first | exact fun z => g17 z.1 | exact fun z => g26 z.2, rfl, rfl⟩)))
    · obtain ⟨q, hqa, hqb, rfl⟩ := rg_mp (a := 1) (b := 30) h17 (by omega) (by omega)
      refine r_iload_n (pc := 20) dX5_bestWatch_20 rfl ?_
      refine r_iconst (v := nI 0) (pc := 21) dX5_bestWatch_21 (by decide) ?_
      refine r_iconst (v := nI 1) (pc := 22) dX5_bestWatch_22 (by decide) ?_
      refine iv_X5_63 (c_X5_within _ _ _ _ _ _) (pc := 23) dX5_bestWatch_23 ⟨Nat.le_of_ble_eq_true rfl, Nat.le_of_ble_eq_true rfl⟩ (Nat.le_of_ble_eq_true rfl) hcs (kI ?_)
      refine r_ifne_b (tgt := 32) (pc := 26) dX5_bestWatch_26 (by decide) (fun h26 => ?_) (fun h26 => ?_)
      · obtain ⟨p, hpa, hpb, rfl⟩ := rg_mp (a := 0) (b := 1) h26 (by omega) (by omega)
        refine r_iconst (v := (-1)) (pc := 32) dX5_bestWatch_32 (by decide) ?_
        refine r_st_n [_, _, _, _, _, _, _] (pc := 33) dX5_bestWatch_33 (by decide) rfl rfl ?_
        refine r_ldc (pc := 34) dX5_bestWatch_34 lk_X5_219 ?_
        refine r_st [_, _, _, _, _, _, _] (pc := 36) dX5_bestWatch_36 (by decide) rfl rfl ?_
        refine r_iconst (v := nI 0) (pc := 38) dX5_bestWatch_38 (by decide) ?_
        refine r_st [_, _, _, _, _, _, _] (pc := 39) dX5_bestWatch_39 (by decide) rfl rfl ?_
        refine V.bk (loopV (fun (σ : Nat × Int32 × Int32 × Mem) => V κ cX5_bestWatch RX5 7 (some .int) (rmx 5 151) (QM κ PP) (σ.2.2.2) 41 [some (.ref (gA κ.G 14)), some (.int (nI q)), some (.int (nI p)), some (.int (σ.2.2.1)), some (.int (σ.2.1)), some (.int (nI (σ.1))), none] []) (fun (σ : Nat × Int32 × Int32 × Mem) => (σ.1) ≤ n ∧ fpc M (σ.2.2.2) ∧ bwI (fun i => sumN (goP (upd S 4 (nI 1 <<< (nI i &&& 31))) n q) 11 n) (σ.1) (σ.2.1) (σ.2.2.1)) (fun (σ : Nat × Int32 × Int32 × Mem) => n - (σ.1)) ?_ (0, cNone, -1, M) ⟨Nat.zero_le _, fpc.refl _, Or.inl ⟨rfl, rfl, rfl⟩⟩) rfl (by (repeat (first | exact wk_0 | refine wk_n ?_ | refine wk_s rfl ?_)); done)
        rintro ⟨j, u, t, N⟩ hI0 ih
        dsimp only at hI0 ih
        obtain ⟨hj, hf, hB⟩ := hI0
        show V κ cX5_bestWatch RX5 7 (some .int) (rmx 5 151) (QM κ PP) N 41 [some (.ref (gA κ.G 14)), some (.int (nI q)), some (.int (nI p)), some (.int t), some (.int u), some (.int (nI j)), none] []
        refine r_iload (pc := 41) dX5_bestWatch_41 rfl ?_
        refine r_aload_n (pc := 43) dX5_bestWatch_43 rfl ?_
        refine gf_X5_25 (pc := 44) dX5_bestWatch_44 rfl ?_
        refine gf_X5_140 (pc := 47) dX5_bestWatch_47 rfl ?_
        refine r_is (nI n) (by first | exact hn | exact (hf.ms hm).1) ?_
        refine r_icmp_ge (tgt := 90) (pc := 50) dX5_bestWatch_50 (by decide) (fun h50 => ?_) (fun h50 => ?_)
        · have h50 : n ≤ j := (nI_leI (by omega) (by omega)).mp h50
          obtain rfl : n = j := by omega
          obtain ⟨-, hu, ht2⟩ := hB.resolve_left (fun z => by omega)
          refine r_iload_n (pc := 90) dX5_bestWatch_90 rfl ?_
          refine r_if_ne (tgt := 99) (pc := 91) dX5_bestWatch_91 (by decide) (fun h91 => ?_) (fun h91 => ?_)
          · have h91 : p ≠ 0 := fun z => h91 (by rw [z]; rfl)
            refine r_iload_n (pc := 99) dX5_bestWatch_99 rfl ?_
            exact r_iret (pc := 100) dX5_bestWatch_100 rfl (by subst hPP; exact (by first | exact Or.inr (Or.inr ⟨hn1, q, p, hqa, hqb, hpb, rfl, rfl, by rw [if_pos h91, hu], hf⟩) | exact Or.inr (Or.inr ⟨hn1, q, p, hqa, hqb, hpb, rfl, rfl, by rw [if_neg h91, ht2], hf⟩)))
          · have h91 : p = 0 := (nI_eq (by omega) (by omega)).mp (h91.trans nI_0.symm)
            refine r_iload (pc := 94) dX5_bestWatch_94 rfl ?_
            refine r_goto (tgt := 100) (pc := 96) dX5_bestWatch_96 (by decide) ?_
            exact r_iret (pc := 100) dX5_bestWatch_100 rfl (by subst hPP; exact (by first | exact Or.inr (Or.inr ⟨hn1, q, p, hqa, hqb, hpb, rfl, rfl, by rw [if_pos h91, hu], hf⟩) | exact Or.inr (Or.inr ⟨hn1, q, p, hqa, hqb, hpb, rfl, rfl, by rw [if_neg h91, ht2], hf⟩)))
        · have h50 : j < n := Nat.not_le.mp (fun z => h50 ((nI_leI (by omega) (by omega)).mpr z))
          refine r_aload_n (pc := 53) dX5_bestWatch_53 rfl ?_
          refine r_iload_n (pc := 54) dX5_bestWatch_54 rfl ?_
          refine r_iconst (v := nI 1) (pc := 55) dX5_bestWatch_55 (by decide) ?_
          refine r_iload (pc := 56) dX5_bestWatch_56 rfl ?_
          refine r_ishl (pc := 58) dX5_bestWatch_58 ?_
          have hj2 : 2 ^ j < 2 ^ n := Nat.pow_lt_pow_right (by decide) h50
          refine r_is (nI (2 ^ j)) (shl1 j (by omega)) ?_
          refine iv_X5_223 (c_X5_passWatched _ _ _ q (2 ^ j) (by omega) S n (hf.ms hm) hR hn1 hj2) (pc := 59) dX5_bestWatch_59 rfl ⟨Nat.le_of_ble_eq_true rfl, Nat.le_of_ble_eq_true rfl⟩ (Nat.le_of_ble_eq_true rfl) hcs (kqV (fun N59 r59 => ?_))
          obtain ⟨f59, T, t1, t2, t3⟩ := r59
          have ff := hf.trans f59
          have hnn : 0 ≤ (fun i => sumN (goP (upd S 4 (nI 1 <<< (nI i &&& 31))) n q) 11 n) j := sum_nn ((by rw [shl1 j (by omega)]; exact hR.watch hj2 : Rg n (upd S 4 (nI 1 <<< (nI j &&& 31)))).go hn1 q)
          refine r_aload_n (pc := 62) dX5_bestWatch_62 rfl ?_
          refine gf_X5_29 (pc := 63) dX5_bestWatch_63 rfl ?_
          refine iv_X5_226 (c_X2_allLegs_28 _ _ _ T n t1 t2) (pc := 66) dX5_bestWatch_66 rfl ⟨Nat.le_of_ble_eq_true rfl, Nat.le_of_ble_eq_true rfl⟩ (Nat.le_of_ble_eq_true rfl) hcs (kI ?_)
          refine r_is ((fun i => sumN (goP (upd S 4 (nI 1 <<< (nI i &&& 31))) n q) 11 n) j) (by rw [t3.sum n (Nat.le_refl n)]; dsimp only; rw [shl1 j (by omega)]) ?_
          refine r_st [_, _, _, _, _, _, _] (pc := 69) dX5_bestWatch_69 (by decide) rfl rfl ?_
          refine r_iload (pc := 71) dX5_bestWatch_71 rfl ?_
          refine r_iload_n (pc := 73) dX5_bestWatch_73 rfl ?_
          refine r_icmp_le (tgt := 84) (pc := 74) dX5_bestWatch_74 (by decide) (fun h74 => ?_) (fun h74 => ?_)
          · first | refine r_inc [_, _, _, _, _, _, _] (pc := 84) dX5_bestWatch_84 rfl (nI_inc _) (by decide) rfl rfl ?_ | refine r_inc [_, _, _, _, _, _, _] (pc := 84) dX5_bestWatch_84 rfl rfl (by decide) rfl rfl ?_
            refine r_goto (tgt := 41) (pc := 87) dX5_bestWatch_87 (by decide) ?_
            first
              | exact V.bk (ih (j + 1, u, t, N59) ⟨by dsimp only; omega, ff, bwI_n hB hnn h74⟩ (by dsimp only; omega)) rfl (by (repeat (first | exact wk_0 | refine wk_n ?_ | refine wk_s rfl ?_)); done)
              | exact V.bk (ih (j + 1, nI j, (fun i => sumN (goP (upd S 4 (nI 1 <<< (nI i &&& 31))) n q) 11 n) j, N59) ⟨by dsimp only; omega, ff, bwI_y hB hnn h74⟩ (by dsimp only; omega)) rfl (by (repeat (first | exact wk_0 | refine wk_n ?_ | refine wk_s rfl ?_)); done)
          · refine r_iload (pc := 77) dX5_bestWatch_77 rfl ?_
            refine r_st_n [_, _, _, _, _, _, _] (pc := 79) dX5_bestWatch_79 (by decide) rfl rfl ?_
            refine r_iload (pc := 80) dX5_bestWatch_80 rfl ?_
            refine r_st [_, _, _, _, _, _, _] (pc := 82) dX5_bestWatch_82 (by decide) rfl rfl ?_
            first | refine r_inc [_, _, _, _, _, _, _] (pc := 84) dX5_bestWatch_84 rfl (nI_inc _) (by decide) rfl rfl ?_ | refine r_inc [_, _, _, _, _, _, _] (pc := 84) dX5_bestWatch_84 rfl rfl (by decide) rfl rfl ?_
            refine r_goto (tgt := 41) (pc := 87) dX5_bestWatch_87 (by decide) ?_
            first
              | exact V.bk (ih (j + 1, u, t, N59) ⟨by dsimp only; omega, ff, bwI_n hB hnn h74⟩ (by dsimp only; omega)) rfl (by (repeat (first | exact wk_0 | refine wk_n ?_ | refine wk_s rfl ?_)); done)
              | exact V.bk (ih (j + 1, nI j, (fun i => sumN (goP (upd S 4 (nI 1 <<< (nI i &&& 31))) n q) 11 n) j, N59) ⟨by dsimp only; omega, ff, bwI_y hB hnn h74⟩ (by dsimp only; omega)) rfl (by (repeat (first | exact wk_0 | refine wk_n ?_ | refine wk_s rfl ?_)); done)
      · have g26 : ¬ rgG 0 1 y := fun z => h26 (rg_mpr z (by omega))
        refine r_ldc (pc := 29) dX5_bestWatch_29 lk_X5_67 ?_
        exact r_iret (pc := 31) dX5_bestWatch_31 rfl (by subst hPP; exact (Or.inr (Or.inl ⟨hn1, by first | exact fun z => g17 z.1 | exact fun z => g26 z.2, rfl, rfl⟩)))
  · have g4 : n = 0 := h4
    refine r_ldc (pc := 7) dX5_bestWatch_7 lk_X5_148 ?_
    exact r_iret (pc := 9) dX5_bestWatch_9 rfl (by subst hPP; exact (Or.inl ⟨g4, rfl, rfl⟩))
