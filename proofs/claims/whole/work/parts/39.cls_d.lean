def fwE (p : Nat → Prop) (m : Nat) (u : Int32) : Prop := (u = cNone ∧ ∀ i, i < m → ¬ p i) ∨ (∃ b, b < m ∧ u = nI b ∧ p b ∧ ∀ i, i < m → p i → pop b < pop i ∨ (pop b = pop i ∧ b ≤ i))
theorem gdB_fw (p : Nat → Prop) : ∀ m, m ≤ 64 → fwE p m (gdB p m)
  | 0, _ => Or.inl ⟨rfl, fun i h => absurd h (Nat.not_lt_zero i)⟩
  | m + 1, hm => by
    rcases gdB_fw p m (by omega) with ⟨e, h⟩ | ⟨b, hb, e, hp, h⟩
    · by_cases hp : p m
      · have e2 : gdB p (m + 1) = nI m := if_pos ⟨Or.inl (by rw [e]; decide), hp⟩
        refine Or.inr ⟨m, by omega, e2, hp, fun i hi hpi => ?_⟩
        by_cases z : i = m
        · subst z; exact Or.inr ⟨rfl, Nat.le_refl _⟩
        · exact absurd hpi (h i (by omega))
      · have e2 : gdB p (m + 1) = gdB p m := if_neg (fun z => hp z.2)
        refine Or.inl ⟨e2.trans e, fun i hi => ?_⟩
        by_cases z : i = m
        · subst z; exact hp
        · exact h i (by omega)
    · have hcl : (gdB p m).toNatClampNeg = b := by rw [e]; exact nI_clamp (by omega)
      have hng : ¬ gdB p m < 0 := by rw [e]; exact nI_pos (by omega)
      by_cases hp2 : pop m < pop b ∧ p m
      · have e2 : gdB p (m + 1) = nI m := if_pos ⟨Or.inr (by rw [hcl]; exact hp2.1), hp2.2⟩
        refine Or.inr ⟨m, by omega, e2, hp2.2, fun i hi hpi => ?_⟩
        by_cases z : i = m
        · subst z; exact Or.inr ⟨rfl, Nat.le_refl _⟩
        · rcases h i (by omega) hpi with y | y <;> exact Or.inl (by omega)
      · have e2 : gdB p (m + 1) = gdB p m := if_neg (fun z => hp2 ⟨by rcases z.1 with y | y; exact absurd y hng; rw [hcl] at y; exact y, z.2⟩)
        refine Or.inr ⟨b, by omega, e2.trans e, hp, fun i hi hpi => ?_⟩
        by_cases z : i = m
        · subst z
          have : ¬ pop i < pop b := fun y => hp2 ⟨y, hpi⟩
          by_cases y : pop b < pop i
          · exact Or.inl y
          · exact Or.inr ⟨by omega, by omega⟩
        · exact h i (by omega) hpi
theorem fw_u {p : Nat → Prop} {m : Nat} {u u2 : Int32} (h : fwE p m u) (g : fwE p m u2) : u = u2 := by
  rcases h with ⟨e, h⟩ | ⟨b, hb, e, hp, h⟩ <;> rcases g with ⟨e2, g⟩ | ⟨b2, hb2, e2, hp2, g⟩
  · rw [e, e2]
  · exact absurd hp2 (h b2 hb2)
  · exact absurd hp (g b hb)
  · have h1 := h b2 hb2 hp2
    have h2 := g b hb hp
    have : b = b2 := by omega
    rw [e, e2, this]
theorem fw_gd {p : Nat → Prop} {m : Nat} {u : Int32} (hm : m ≤ 64) (h : fwE p m u) : u = gdB p m := fw_u h (gdB_fw p m hm)
theorem pop_n : ∀ n : Nat, n ≤ 6 → ∀ i : Nat, i < 64 → i < 2 ^ n → pop i ≤ n := by decide +kernel
theorem xor_n : ∀ n : Nat, n ≤ 6 → ∀ w : Nat, w < 64 → w < 2 ^ n → ∀ k : Nat, k < 6 → k < n → w ^^^ 2 ^ k < 2 ^ n := by decide +kernel
theorem hiG_s (S : Nat → Int32) {g c : Nat} (hg : g < 64) (hc : c < 6) : hiG S g (c + 1) = if (nI g >>> (nI c &&& 31)) &&& nI 1 = 0 then hiG S g c else hiG S g c + highS S c := by
  rw [hiG]
  by_cases h : (nI g >>> (nI c &&& 31)) &&& nI 1 = 0
  · rw [if_pos h, if_neg (fun z => (hasB_w g hg c hc).mpr z h), add0]
  · rw [if_neg h, if_pos ((hasB_w g hg c hc).mp h)]
theorem bits_all : ∀ n : Nat, n ≤ 6 → ∀ c : Nat, c < 6 → c < n → hasB (nI (2 ^ n - 1)) (nI c) := by decide +kernel
theorem hiG_all (S : Nat → Int32) {n : Nat} (hn : n ≤ 6) : ∀ c, c ≤ n → hiG S (2 ^ n - 1) c = hiN S c
  | 0, _ => rfl
  | c + 1, hc => by rw [hiG, hiN, hiG_all S hn c (by omega), if_pos (bits_all n hn c (by omega) (by omega))]
set_option maxHeartbeats 4000000 in
set_option maxRecDepth 100000 in
theorem c_X5_watch (l : Launch) (G : Gx) (M : Mem) (x y : Int32) (S : Nat → Int32) (n : Nat) (hm : ms 18 n S M) (hR : Rg n S) (w : Nat) (hw : S 4 = nI w) (hw64 : w < 64) (L : Nat → Nat → Int32) (a : Nat) (hA : hsR M L a) : Con l G yX5_watch cX5_watch 3 (some .int) 3 102 [.ref (gA G 14), .int x, .int y] M (fun v M' => (¬ (chG n x ∧ rgG 0 1 y) ∧ rI cBad M v M') ∨ (∃ k q, k < n ∧ q ≤ 1 ∧ x = nI k ∧ y = nI q ∧ ((bI (hasB (S 4) (nI k)) = (if nI q = nI 1 then nI 1 else nI 0) ∧ rI cState M v M') ∨ (¬ bI (hasB (S 4) (nI k)) = (if nI q = nI 1 then nI 1 else nI 0) ∧ q = 1 ∧ S 0 ≤ nI (pop w) ∧ rI cFull M v M') ∨ (¬ bI (hasB (S 4) (nI k)) = (if nI q = nI 1 then nI 1 else nI 0) ∧ ¬ (q = 1 ∧ S 0 ≤ nI (pop w)) ∧ qI (S 4 ^^^ nI 1 <<< (nI k &&& 31)) (AK M n (upd S 4 (S 4 ^^^ nI 1 <<< (nI k &&& 31))) (psh L a S) (min 24 (a + 1))) v M')))) := by
  refine Con.ofV [some (.ref (gA G 14)), some (.int x), some (.int y)] RX5 (by decide) rfl (Nat.le_of_ble_eq_true rfl) rfl ?_
  intro κ hl hG hk0 hn0
  subst hl hG
  have hcs : κ.k ≤ 0 ∧ κ.n ≤ 0 := ⟨Nat.le_of_eq hk0, Nat.le_of_eq hn0⟩
  generalize hPP : (fun v M' => (¬ (chG n x ∧ rgG 0 1 y) ∧ rI cBad M v M') ∨ (∃ k q, k < n ∧ q ≤ 1 ∧ x = nI k ∧ y = nI q ∧ ((bI (hasB (S 4) (nI k)) = (if nI q = nI 1 then nI 1 else nI 0) ∧ rI cState M v M') ∨ (¬ bI (hasB (S 4) (nI k)) = (if nI q = nI 1 then nI 1 else nI 0) ∧ q = 1 ∧ S 0 ≤ nI (pop w) ∧ rI cFull M v M') ∨ (¬ bI (hasB (S 4) (nI k)) = (if nI q = nI 1 then nI 1 else nI 0) ∧ ¬ (q = 1 ∧ S 0 ≤ nI (pop w)) ∧ qI (S 4 ^^^ nI 1 <<< (nI k &&& 31)) (AK M n (upd S 4 (S 4 ^^^ nI 1 <<< (nI k &&& 31))) (psh L a S) (min 24 (a + 1))) v M')))) = PP
  have hn := hm.1
  have hn6 := hR.1
  refine r_aload_n (pc := 0) dX5_watch_0 rfl ?_
  refine r_iload_n (pc := 1) dX5_watch_1 rfl ?_
  refine iv_X5_165 (c_X5_isChair _ _ _ _) (pc := 2) dX5_watch_2 rfl ⟨Nat.le_of_ble_eq_true rfl, Nat.le_of_ble_eq_true rfl⟩ (Nat.le_of_ble_eq_true rfl) hcs (kI ?_)
  refine r_ifeq_b (tgt := 17) (pc := 5) dX5_watch_5 (by decide) (fun h5 => ?_) (fun h5 => ?_)
  · have g5 : ¬ chG n x := fun z => h5 (ch_mpr hn hn6 z)
    refine r_ldc (pc := 17) dX5_watch_17 lk_X5_67 ?_
    exact r_iret (pc := 19) dX5_watch_19 rfl (by subst hPP; exact (Or.inl ⟨by first | exact fun z => g5 z.1 | exact fun z => g14 z.2, rfl, rfl⟩))
  · obtain ⟨k, hk, rfl⟩ := ch_mp hn hn6 h5
    refine r_iload_n (pc := 8) dX5_watch_8 rfl ?_
    refine r_iconst (v := nI 0) (pc := 9) dX5_watch_9 (by decide) ?_
    refine r_iconst (v := nI 1) (pc := 10) dX5_watch_10 (by decide) ?_
    refine iv_X5_63 (c_X5_within _ _ _ _ _ _) (pc := 11) dX5_watch_11 ⟨Nat.le_of_ble_eq_true rfl, Nat.le_of_ble_eq_true rfl⟩ (Nat.le_of_ble_eq_true rfl) hcs (kI ?_)
    refine r_ifne_b (tgt := 20) (pc := 14) dX5_watch_14 (by decide) (fun h14 => ?_) (fun h14 => ?_)
    · obtain ⟨q, hqa, hqb, rfl⟩ := rg_mp (a := 0) (b := 1) h14 (by omega) (by omega)
      refine r_aload_n (pc := 20) dX5_watch_20 rfl ?_
      refine gf_X5_25 (pc := 21) dX5_watch_21 rfl ?_
      refine r_iload_n (pc := 24) dX5_watch_24 rfl ?_
      refine iv_X5_178 (c_X2_isWatched_18 _ _ _ k w (by omega) (hm.2.2.2.2.1.trans hw) hw64) (pc := 25) dX5_watch_25 rfl ⟨Nat.le_of_ble_eq_true rfl, Nat.le_of_ble_eq_true rfl⟩ (Nat.le_of_ble_eq_true rfl) hcs (kI ?_)
      refine r_is (bI (hasB (S 4) (nI k))) (by rw [hm.2.2.2.2.1]) ?_
      refine r_iload_n (pc := 28) dX5_watch_28 rfl ?_
      refine r_iconst (v := nI 1) (pc := 29) dX5_watch_29 (by decide) ?_
      refine t_icmp_ne (tgt := 37) (J := 38) (a := ?pA30x1) (b := ?pB30x1) (pc := 30) dX5_watch_30 (by decide) (fun k30x1 => ?pT30x1) (fun k30x1 => ?pF30x1) ?pK30x1
      case pT30x1 =>
        refine r_iconst (v := nI 0) (pc := 37) dX5_watch_37 (by decide) ?_
        exact k30x1
      case pF30x1 =>
        refine r_iconst (v := nI 1) (pc := 33) dX5_watch_33 (by decide) ?_
        refine r_goto (tgt := 38) (pc := 34) dX5_watch_34 (by decide) ?_
        exact k30x1
      case pK30x1 =>
        refine r_icmp_ne (tgt := 44) (pc := 38) dX5_watch_38 (by decide) (fun h38 => ?_) (fun h38 => ?_)
        · refine r_iload_n (pc := 44) dX5_watch_44 rfl ?_
          refine r_iconst (v := nI 1) (pc := 45) dX5_watch_45 (by decide) ?_
          refine r_icmp_ne (tgt := 72) (pc := 46) dX5_watch_46 (by decide) (fun h46 => ?_) (fun h46 => ?_)
          · have g46 : ¬ (q = 1 ∧ S 0 ≤ nI (pop w)) := fun z => h46 (by rw [z.1])
            refine r_aload_n (pc := 72) dX5_watch_72 rfl ?_
            refine gf_X5_42 (pc := 73) dX5_watch_73 rfl ?_
            refine r_aload_n (pc := 76) dX5_watch_76 rfl ?_
            refine gf_X5_25 (pc := 77) dX5_watch_77 rfl ?_
            refine iv_X5_155 (d_X1_keep M L a n S hA hm hR (by omega)) (pc := 80) dX5_watch_80 rfl ⟨Nat.le_of_ble_eq_true rfl, Nat.le_of_ble_eq_true rfl⟩ (Nat.le_of_ble_eq_true rfl) hcs (kqV (fun N80 r80 => ?_))
            have hm2 := hm.lo r80.2.1
            refine r_aload_n (pc := 83) dX5_watch_83 rfl ?_
            refine gf_X5_25 (pc := 84) dX5_watch_84 rfl ?_
            refine r_dup (pc := 87) dX5_watch_87 rfl ?_
            refine gf_X5_181 (pc := 88) dX5_watch_88 rfl ?_
            refine r_is (S 4) hm2.2.2.2.2.1 ?_
            refine r_iconst (v := nI 1) (pc := 91) dX5_watch_91 (by decide) ?_
            refine r_iload_n (pc := 92) dX5_watch_92 rfl ?_
            refine r_ishl (pc := 93) dX5_watch_93 ?_
            refine r_ixor (pc := 94) dX5_watch_94 ?_
            refine pf_X5_181 (pc := 95) dX5_watch_95 rfl ?_
            refine r_aload_n (pc := 98) dX5_watch_98 rfl ?_
            refine gf_X5_25 (pc := 99) dX5_watch_99 rfl ?_
            refine gf_X5_181 (pc := 102) dX5_watch_102 rfl ?_
            refine r_is (S 4 ^^^ nI 1 <<< (nI k &&& 31)) (by rw [mset_eq, pk_us]) ?_
            exact r_iret (pc := 105) dX5_watch_105 rfl (by subst hPP; exact (Or.inr ⟨k, q, hk, hqb, rfl, rfl, Or.inr (Or.inr ⟨h38, g46, rfl, fun z hz => by rw [mset_ne _ _ _ (by omega)]; exact r80.1 z hz, hm2.watch _, r80.2.2.fr (fun z hz => mset_ne _ _ _ (by omega))⟩)⟩))
          · have e46 : q = 1 := (nI_eq (by omega) (by omega)).mp h46
            refine r_aload_n (pc := 49) dX5_watch_49 rfl ?_
            refine gf_X5_25 (pc := 50) dX5_watch_50 rfl ?_
            refine gf_X5_181 (pc := 53) dX5_watch_53 rfl ?_
            refine r_is (nI w) (hm.2.2.2.2.1.trans hw) ?_
            refine iv_X5_184 (c_J6_bitCount _ _ _ w hw64) (pc := 56) dX5_watch_56 ⟨Nat.le_of_ble_eq_true rfl, Nat.le_of_ble_eq_true rfl⟩ (Nat.le_of_ble_eq_true rfl) hcs (kI ?_)
            refine r_aload_n (pc := 59) dX5_watch_59 rfl ?_
            refine gf_X5_25 (pc := 60) dX5_watch_60 rfl ?_
            refine gf_X5_189 (pc := 63) dX5_watch_63 rfl ?_
            refine r_is (S 0) (hm.2.1) ?_
            refine r_icmp_lt (tgt := 72) (pc := 66) dX5_watch_66 (by decide) (fun h66 => ?_) (fun h66 => ?_)
            · have g46 : ¬ (q = 1 ∧ S 0 ≤ nI (pop w)) := fun z => (fa_of_lt h66).2.1 z.2
              refine r_aload_n (pc := 72) dX5_watch_72 rfl ?_
              refine gf_X5_42 (pc := 73) dX5_watch_73 rfl ?_
              refine r_aload_n (pc := 76) dX5_watch_76 rfl ?_
              refine gf_X5_25 (pc := 77) dX5_watch_77 rfl ?_
              refine iv_X5_155 (d_X1_keep M L a n S hA hm hR (by omega)) (pc := 80) dX5_watch_80 rfl ⟨Nat.le_of_ble_eq_true rfl, Nat.le_of_ble_eq_true rfl⟩ (Nat.le_of_ble_eq_true rfl) hcs (kqV (fun N80 r80 => ?_))
              have hm2 := hm.lo r80.2.1
              refine r_aload_n (pc := 83) dX5_watch_83 rfl ?_
              refine gf_X5_25 (pc := 84) dX5_watch_84 rfl ?_
              refine r_dup (pc := 87) dX5_watch_87 rfl ?_
              refine gf_X5_181 (pc := 88) dX5_watch_88 rfl ?_
              refine r_is (S 4) hm2.2.2.2.2.1 ?_
              refine r_iconst (v := nI 1) (pc := 91) dX5_watch_91 (by decide) ?_
              refine r_iload_n (pc := 92) dX5_watch_92 rfl ?_
              refine r_ishl (pc := 93) dX5_watch_93 ?_
              refine r_ixor (pc := 94) dX5_watch_94 ?_
              refine pf_X5_181 (pc := 95) dX5_watch_95 rfl ?_
              refine r_aload_n (pc := 98) dX5_watch_98 rfl ?_
              refine gf_X5_25 (pc := 99) dX5_watch_99 rfl ?_
              refine gf_X5_181 (pc := 102) dX5_watch_102 rfl ?_
              refine r_is (S 4 ^^^ nI 1 <<< (nI k &&& 31)) (by rw [mset_eq, pk_us]) ?_
              exact r_iret (pc := 105) dX5_watch_105 rfl (by subst hPP; exact (Or.inr ⟨k, q, hk, hqb, rfl, rfl, Or.inr (Or.inr ⟨h38, g46, rfl, fun z hz => by rw [mset_ne _ _ _ (by omega)]; exact r80.1 z hz, hm2.watch _, r80.2.2.fr (fun z hz => mset_ne _ _ _ (by omega))⟩)⟩))
            · have g66 := fa_of_nlt h66
              refine r_ldc (pc := 69) dX5_watch_69 lk_X5_118 ?_
              exact r_iret (pc := 71) dX5_watch_71 rfl (by subst hPP; exact (Or.inr ⟨k, q, hk, hqb, rfl, rfl, Or.inr (Or.inl ⟨h38, e46, g66, rfl, rfl⟩)⟩))
        · refine r_ldc (pc := 41) dX5_watch_41 lk_X5_148 ?_
          exact r_iret (pc := 43) dX5_watch_43 rfl (by subst hPP; exact (Or.inr ⟨k, q, hk, hqb, rfl, rfl, Or.inl ⟨h38, rfl, rfl⟩⟩))
    · have g14 : ¬ rgG 0 1 y := fun z => h14 (rg_mpr z (by omega))
      refine r_ldc (pc := 17) dX5_watch_17 lk_X5_67 ?_
      exact r_iret (pc := 19) dX5_watch_19 rfl (by subst hPP; exact (Or.inl ⟨by first | exact fun z => g5 z.1 | exact fun z => g14 z.2, rfl, rfl⟩))
set_option maxHeartbeats 4000000 in
set_option maxRecDepth 100000 in
theorem c_X5_fewestToWatch (l : Launch) (G : Gx) (M : Mem) (k q m : Nat) (hq5 : q ≤ 5) (hm30 : m ≤ 30) (S : Nat → Int32) (n : Nat) (hm : ms 18 n S M) (hR : Rg n S) (hk : k < n) : Con l G yX5_fewestToWatch cX5_fewestToWatch 6 (some .int) 6 174 [.ref (gA G 14), .int (nI k), .int (nI q), .int (nI m)] M (qI (gdB (fun i => ¬ nI q < nI (rankN (goP (upd S 4 (nI i)) n m) k n)) (2 ^ n)) (fpc M)) := by
  refine Con.ofV [some (.ref (gA G 14)), some (.int (nI k)), some (.int (nI q)), some (.int (nI m)), none, none] RX5 (by decide) rfl (Nat.le_of_ble_eq_true rfl) rfl ?_
  intro κ hl hG hk0 hn0
  subst hl hG
  have hcs : κ.k ≤ 0 ∧ κ.n ≤ 0 := ⟨Nat.le_of_eq hk0, Nat.le_of_eq hn0⟩
  have hn := hm.1
  have hn6 := hR.1
  have h64n := two6 n hn6
  have hn1 : 0 < n := by omega
  refine r_iconst (v := nI 0) (pc := 0) dX5_fewestToWatch_0 (by decide) ?_
  refine r_st [_, _, _, _, _, _] (pc := 1) dX5_fewestToWatch_1 (by decide) rfl rfl ?_
  refine V.bk (loopV (fun (σ : Nat × Mem) => V κ cX5_fewestToWatch RX5 6 (some .int) (rmx 6 174) (QM κ (qI (gdB (fun i => ¬ nI q < nI (rankN (goP (upd S 4 (nI i)) n m) k n)) (2 ^ n)) (fpc M))) (σ.2) 3 [some (.ref (gA κ.G 14)), some (.int (nI k)), some (.int (nI q)), some (.int (nI m)), some (.int (nI (σ.1))), none] []) (fun (σ : Nat × Mem) => (σ.1) ≤ n + 1 ∧ fpc M (σ.2) ∧ ∀ i, i < 2 ^ n → pop i < (σ.1) → ¬ (fun i => ¬ nI q < nI (rankN (goP (upd S 4 (nI i)) n m) k n)) i) (fun (σ : Nat × Mem) => n + 1 - (σ.1)) ?_ (0, M) ⟨Nat.zero_le _, fpc.refl _, fun i _ h => absurd h (Nat.not_lt_zero _)⟩) rfl (by (repeat (first | exact wk_0 | refine wk_n ?_ | refine wk_s rfl ?_)); done)
  rintro ⟨a, N⟩ hI0 ih1
  dsimp only at hI0 ih1
  obtain ⟨ha, hf, hi⟩ := hI0
  show V κ cX5_fewestToWatch RX5 6 (some .int) (rmx 6 174) (QM κ (qI (gdB (fun i => ¬ nI q < nI (rankN (goP (upd S 4 (nI i)) n m) k n)) (2 ^ n)) (fpc M))) N 3 [some (.ref (gA κ.G 14)), some (.int (nI k)), some (.int (nI q)), some (.int (nI m)), some (.int (nI a)), none] []
  refine r_iload (pc := 3) dX5_fewestToWatch_3 rfl ?_
  refine r_aload_n (pc := 5) dX5_fewestToWatch_5 rfl ?_
  refine gf_X5_25 (pc := 6) dX5_fewestToWatch_6 rfl ?_
  refine gf_X5_140 (pc := 9) dX5_fewestToWatch_9 rfl ?_
  refine r_is (nI n) (by first | exact hn | exact (hf.ms hm).1 | exact (hfK.ms hm).1) ?_
  refine r_icmp_gt (tgt := 69) (pc := 12) dX5_fewestToWatch_12 (by decide) (fun h12 => ?_) (fun h12 => ?_)
  · have ha2 : a = n + 1 := by have := (nI_ltI (by omega) (by omega)).mp h12; omega
    refine r_ldc (pc := 69) dX5_fewestToWatch_69 lk_X5_219 ?_
    exact r_iret (pc := 71) dX5_fewestToWatch_71 rfl ⟨by rw [← fw_gd h64n (Or.inl ⟨rfl, fun i z => hi i z (by have := pop_n n hn6 i (by omega) z; omega)⟩)], hf⟩
  · have ha2 : a ≤ n := Nat.not_lt.mp (fun z => h12 (nI_lt z (by omega)))
    refine r_iconst (v := nI 0) (pc := 15) dX5_fewestToWatch_15 (by decide) ?_
    refine r_st [_, _, _, _, _, _] (pc := 16) dX5_fewestToWatch_16 (by decide) rfl rfl ?_
    refine V.bk (loopV (fun (σ : Nat × Mem) => V κ cX5_fewestToWatch RX5 6 (some .int) (rmx 6 174) (QM κ (qI (gdB (fun i => ¬ nI q < nI (rankN (goP (upd S 4 (nI i)) n m) k n)) (2 ^ n)) (fpc M))) (σ.2) 18 [some (.ref (gA κ.G 14)), some (.int (nI k)), some (.int (nI q)), some (.int (nI m)), some (.int (nI a)), some (.int (nI (σ.1)))] []) (fun (σ : Nat × Mem) => (σ.1) ≤ 2 ^ n ∧ fpc M (σ.2) ∧ ∀ i, i < (σ.1) → pop i = a → ¬ (fun i => ¬ nI q < nI (rankN (goP (upd S 4 (nI i)) n m) k n)) i) (fun (σ : Nat × Mem) => 2 ^ n - (σ.1)) ?_ (0, N) ⟨Nat.zero_le _, hf, fun i h => absurd h (Nat.not_lt_zero _)⟩) rfl (by (repeat (first | exact wk_0 | refine wk_n ?_ | refine wk_s rfl ?_)); done)
    rintro ⟨g, K⟩ hI0 ih2
    dsimp only at hI0 ih2
    obtain ⟨hg2, hfK, hg⟩ := hI0
    show V κ cX5_fewestToWatch RX5 6 (some .int) (rmx 6 174) (QM κ (qI (gdB (fun i => ¬ nI q < nI (rankN (goP (upd S 4 (nI i)) n m) k n)) (2 ^ n)) (fpc M))) K 18 [some (.ref (gA κ.G 14)), some (.int (nI k)), some (.int (nI q)), some (.int (nI m)), some (.int (nI a)), some (.int (nI g))] []
    refine r_iload (pc := 18) dX5_fewestToWatch_18 rfl ?_
    refine r_iconst (v := nI 1) (pc := 20) dX5_fewestToWatch_20 (by decide) ?_
    refine r_aload_n (pc := 21) dX5_fewestToWatch_21 rfl ?_
    refine gf_X5_25 (pc := 22) dX5_fewestToWatch_22 rfl ?_
    refine gf_X5_140 (pc := 25) dX5_fewestToWatch_25 rfl ?_
    refine r_is (nI n) (by first | exact hn | exact (hf.ms hm).1 | exact (hfK.ms hm).1) ?_
    refine r_ishl (pc := 28) dX5_fewestToWatch_28 ?_
    refine r_is (nI (2 ^ n)) (shl1 n hn6) ?_
    refine r_icmp_ge (tgt := 63) (pc := 29) dX5_fewestToWatch_29 (by decide) (fun h29 => ?_) (fun h29 => ?_)
    · have hg3 : g = 2 ^ n := by have := (nI_leI (by omega) (by omega)).mp h29; omega
      subst hg3
      first | refine r_inc [_, _, _, _, _, _] (pc := 63) dX5_fewestToWatch_63 rfl (nI_inc _) (by decide) rfl rfl ?_ | refine r_inc [_, _, _, _, _, _] (pc := 63) dX5_fewestToWatch_63 rfl rfl (by decide) rfl rfl ?_
      refine r_goto (tgt := 3) (pc := 66) dX5_fewestToWatch_66 (by decide) ?_
      exact V.bk (ih1 (a + 1, K) ⟨by dsimp only; omega, hfK, fun i z1 z2 => by
              by_cases z : pop i = a
              · exact hg i (by omega) z
              · exact hi i z1 (by dsimp only at z2; omega)⟩ (by dsimp only; omega)) rfl (by (repeat (first | exact wk_0 | refine wk_n ?_ | refine wk_s rfl ?_)); done)
    · have hg3 : g < 2 ^ n := Nat.not_le.mp (fun z => h29 (nI_le z (by omega)))
      have hpl := pop_le g
      refine r_iload (pc := 32) dX5_fewestToWatch_32 rfl ?_
      refine iv_X5_184 (c_J6_bitCount _ _ _ g (by omega)) (pc := 34) dX5_fewestToWatch_34 ⟨Nat.le_of_ble_eq_true rfl, Nat.le_of_ble_eq_true rfl⟩ (Nat.le_of_ble_eq_true rfl) hcs (kI ?_)
      refine r_iload (pc := 37) dX5_fewestToWatch_37 rfl ?_
      refine r_icmp_ne (tgt := 57) (pc := 39) dX5_fewestToWatch_39 (by decide) (fun h39 => ?_) (fun h39 => ?_)
      · first | refine r_inc [_, _, _, _, _, _] (pc := 57) dX5_fewestToWatch_57 rfl (nI_inc _) (by decide) rfl rfl ?_ | refine r_inc [_, _, _, _, _, _] (pc := 57) dX5_fewestToWatch_57 rfl rfl (by decide) rfl rfl ?_
        refine r_goto (tgt := 18) (pc := 60) dX5_fewestToWatch_60 (by decide) ?_
        first
          | exact V.bk (ih2 (g + 1, N47) ⟨by dsimp only; omega, hfK.trans r47, fun i z1 z2 => by
                by_cases z : i = g
                · subst z; exact fun y => y h51
                · exact hg i (by dsimp only at z1; omega) z2⟩ (by dsimp only; omega)) rfl (by (repeat (first | exact wk_0 | refine wk_n ?_ | refine wk_s rfl ?_)); done)
          | exact V.bk (ih2 (g + 1, K) ⟨by dsimp only; omega, hfK, fun i z1 z2 => by
                by_cases z : i = g
                · subst z; exact absurd (by rw [z2]) h39
                · exact hg i (by dsimp only at z1; omega) z2⟩ (by dsimp only; omega)) rfl (by (repeat (first | exact wk_0 | refine wk_n ?_ | refine wk_s rfl ?_)); done)
      · have e39 : pop g = a := (nI_eq (by omega) (by omega)).mp h39
        refine r_aload_n (pc := 42) dX5_fewestToWatch_42 rfl ?_
        refine r_iload_n (pc := 43) dX5_fewestToWatch_43 rfl ?_
        refine r_iload_n (pc := 44) dX5_fewestToWatch_44 rfl ?_
        refine r_iload (pc := 45) dX5_fewestToWatch_45 rfl ?_
        refine iv_X5_261 (c_X5_rankIfWatched _ _ _ k m g (by omega) S n (hfK.ms hm) hR hn1 hk hg3) (pc := 47) dX5_fewestToWatch_47 rfl ⟨Nat.le_of_ble_eq_true rfl, Nat.le_of_ble_eq_true rfl⟩ (Nat.le_of_ble_eq_true rfl) hcs (kqI (fun N47 r47 => ?_))
        refine r_iload_n (pc := 50) dX5_fewestToWatch_50 rfl ?_
        refine r_icmp_gt (tgt := 57) (pc := 51) dX5_fewestToWatch_51 (by decide) (fun h51 => ?_) (fun h51 => ?_)
        · first | refine r_inc [_, _, _, _, _, _] (pc := 57) dX5_fewestToWatch_57 rfl (nI_inc _) (by decide) rfl rfl ?_ | refine r_inc [_, _, _, _, _, _] (pc := 57) dX5_fewestToWatch_57 rfl rfl (by decide) rfl rfl ?_
          refine r_goto (tgt := 18) (pc := 60) dX5_fewestToWatch_60 (by decide) ?_
          first
            | exact V.bk (ih2 (g + 1, N47) ⟨by dsimp only; omega, hfK.trans r47, fun i z1 z2 => by
                  by_cases z : i = g
                  · subst z; exact fun y => y h51
                  · exact hg i (by dsimp only at z1; omega) z2⟩ (by dsimp only; omega)) rfl (by (repeat (first | exact wk_0 | refine wk_n ?_ | refine wk_s rfl ?_)); done)
            | exact V.bk (ih2 (g + 1, K) ⟨by dsimp only; omega, hfK, fun i z1 z2 => by
                  by_cases z : i = g
                  · subst z; exact absurd (by rw [z2]) h39
                  · exact hg i (by dsimp only at z1; omega) z2⟩ (by dsimp only; omega)) rfl (by (repeat (first | exact wk_0 | refine wk_n ?_ | refine wk_s rfl ?_)); done)
        · refine r_iload (pc := 54) dX5_fewestToWatch_54 rfl ?_
          exact r_iret (pc := 56) dX5_fewestToWatch_56 rfl ⟨by rw [← fw_gd h64n (Or.inr ⟨g, hg3, rfl, h51, fun i z1 z2 => by
                  by_cases y1 : pop i < a
                  · exact absurd z2 (hi i z1 y1)
                  · by_cases y2 : pop i = a
                    · exact Or.inr ⟨by omega, Nat.not_lt.mp (fun y => hg i y y2 z2)⟩
                    · exact Or.inl (by omega)⟩)], hfK.trans r47⟩
set_option maxHeartbeats 4000000 in
set_option maxRecDepth 100000 in
theorem c_X5_guard (l : Launch) (G : Gx) (M : Mem) (x y z w : Int32) (S : Nat → Int32) (n : Nat) (hm : ms 18 n S M) (hR : Rg n S) : Con l G yX5_guard cX5_guard 6 (some .int) 7 199 [.ref (gA G 14), .int x, .int y, .int z, .int w] M (fun v M' => (¬ (chG n x ∧ rgG 0 5 y ∧ rgG 0 30 z ∧ rgG 0 1 w) ∧ rI cBad M v M') ∨ (∃ k q m p, k < n ∧ q ≤ 5 ∧ m ≤ 30 ∧ p ≤ 1 ∧ x = nI k ∧ y = nI q ∧ z = nI m ∧ w = nI p ∧ qI (if gdB (fun i => ¬ nI q < nI (rankN (goP (upd S 4 (nI i)) n m) k n)) (2 ^ n) < 0 ∨ p = 1 then gdB (fun i => ¬ nI q < nI (rankN (goP (upd S 4 (nI i)) n m) k n)) (2 ^ n) else nI (pop (gdB (fun i => ¬ nI q < nI (rankN (goP (upd S 4 (nI i)) n m) k n)) (2 ^ n)).toNatClampNeg)) (fpc M) v M')) := by
  refine Con.ofV [some (.ref (gA G 14)), some (.int x), some (.int y), some (.int z), some (.int w), none] RX5 (by decide) rfl (Nat.le_of_ble_eq_true rfl) rfl ?_
  intro κ hl hG hk0 hn0
  subst hl hG
  have hcs : κ.k ≤ 0 ∧ κ.n ≤ 0 := ⟨Nat.le_of_eq hk0, Nat.le_of_eq hn0⟩
  generalize hPP : (fun v M' => (¬ (chG n x ∧ rgG 0 5 y ∧ rgG 0 30 z ∧ rgG 0 1 w) ∧ rI cBad M v M') ∨ (∃ k q m p, k < n ∧ q ≤ 5 ∧ m ≤ 30 ∧ p ≤ 1 ∧ x = nI k ∧ y = nI q ∧ z = nI m ∧ w = nI p ∧ qI (if gdB (fun i => ¬ nI q < nI (rankN (goP (upd S 4 (nI i)) n m) k n)) (2 ^ n) < 0 ∨ p = 1 then gdB (fun i => ¬ nI q < nI (rankN (goP (upd S 4 (nI i)) n m) k n)) (2 ^ n) else nI (pop (gdB (fun i => ¬ nI q < nI (rankN (goP (upd S 4 (nI i)) n m) k n)) (2 ^ n)).toNatClampNeg)) (fpc M) v M')) = PP
  have hn := hm.1
  have hn6 := hR.1
  have h64n := two6 n hn6
  refine r_aload_n (pc := 0) dX5_guard_0 rfl ?_
  refine r_iload_n (pc := 1) dX5_guard_1 rfl ?_
  refine iv_X5_165 (c_X5_isChair _ _ _ _) (pc := 2) dX5_guard_2 rfl ⟨Nat.le_of_ble_eq_true rfl, Nat.le_of_ble_eq_true rfl⟩ (Nat.le_of_ble_eq_true rfl) hcs (kI ?_)
  refine r_ifeq_b (tgt := 37) (pc := 5) dX5_guard_5 (by decide) (fun h5 => ?_) (fun h5 => ?_)
  · have g5 : ¬ chG n x := fun z => h5 (ch_mpr hn hn6 z)
    refine r_ldc (pc := 37) dX5_guard_37 lk_X5_67 ?_
    exact r_iret (pc := 39) dX5_guard_39 rfl (by subst hPP; exact (Or.inl ⟨by first | exact fun z => g5 z.1 | exact fun z => g14 z.2.1 | exact fun z => g24 z.2.2.1 | exact fun z => g34 z.2.2.2, rfl, rfl⟩))
  · obtain ⟨k, hk, rfl⟩ := ch_mp hn hn6 h5
    refine r_iload_n (pc := 8) dX5_guard_8 rfl ?_
    refine r_iconst (v := nI 0) (pc := 9) dX5_guard_9 (by decide) ?_
    refine r_iconst (v := nI 5) (pc := 10) dX5_guard_10 (by decide) ?_
    refine iv_X5_63 (c_X5_within _ _ _ _ _ _) (pc := 11) dX5_guard_11 ⟨Nat.le_of_ble_eq_true rfl, Nat.le_of_ble_eq_true rfl⟩ (Nat.le_of_ble_eq_true rfl) hcs (kI ?_)
    refine r_ifeq_b (tgt := 37) (pc := 14) dX5_guard_14 (by decide) (fun h14 => ?_) (fun h14 => ?_)
    · have g14 : ¬ rgG 0 5 y := fun z => h14 (rg_mpr z (by omega))
      refine r_ldc (pc := 37) dX5_guard_37 lk_X5_67 ?_
      exact r_iret (pc := 39) dX5_guard_39 rfl (by subst hPP; exact (Or.inl ⟨by first | exact fun z => g5 z.1 | exact fun z => g14 z.2.1 | exact fun z => g24 z.2.2.1 | exact fun z => g34 z.2.2.2, rfl, rfl⟩))
    · obtain ⟨q, hqa, hqb, rfl⟩ := rg_mp (a := 0) (b := 5) h14 (by omega) (by omega)
      refine r_iload_n (pc := 17) dX5_guard_17 rfl ?_
      refine r_iconst (v := nI 0) (pc := 18) dX5_guard_18 (by decide) ?_
      refine r_bipush (v := nI 30) (pc := 19) dX5_guard_19 (by decide) ?_
      refine iv_X5_63 (c_X5_within _ _ _ _ _ _) (pc := 21) dX5_guard_21 ⟨Nat.le_of_ble_eq_true rfl, Nat.le_of_ble_eq_true rfl⟩ (Nat.le_of_ble_eq_true rfl) hcs (kI ?_)
      refine r_ifeq_b (tgt := 37) (pc := 24) dX5_guard_24 (by decide) (fun h24 => ?_) (fun h24 => ?_)
      · have g24 : ¬ rgG 0 30 z := fun z => h24 (rg_mpr z (by omega))
        refine r_ldc (pc := 37) dX5_guard_37 lk_X5_67 ?_
        exact r_iret (pc := 39) dX5_guard_39 rfl (by subst hPP; exact (Or.inl ⟨by first | exact fun z => g5 z.1 | exact fun z => g14 z.2.1 | exact fun z => g24 z.2.2.1 | exact fun z => g34 z.2.2.2, rfl, rfl⟩))
      · obtain ⟨m, hma, hmb, rfl⟩ := rg_mp (a := 0) (b := 30) h24 (by omega) (by omega)
        refine r_iload (pc := 27) dX5_guard_27 rfl ?_
        refine r_iconst (v := nI 0) (pc := 29) dX5_guard_29 (by decide) ?_
        refine r_iconst (v := nI 1) (pc := 30) dX5_guard_30 (by decide) ?_
        refine iv_X5_63 (c_X5_within _ _ _ _ _ _) (pc := 31) dX5_guard_31 ⟨Nat.le_of_ble_eq_true rfl, Nat.le_of_ble_eq_true rfl⟩ (Nat.le_of_ble_eq_true rfl) hcs (kI ?_)
        refine r_ifne_b (tgt := 40) (pc := 34) dX5_guard_34 (by decide) (fun h34 => ?_) (fun h34 => ?_)
        · obtain ⟨p, hpa, hpb, rfl⟩ := rg_mp (a := 0) (b := 1) h34 (by omega) (by omega)
          refine r_aload_n (pc := 40) dX5_guard_40 rfl ?_
          refine r_iload_n (pc := 41) dX5_guard_41 rfl ?_
          refine r_iload_n (pc := 42) dX5_guard_42 rfl ?_
          refine r_iload_n (pc := 43) dX5_guard_43 rfl ?_
          refine iv_X5_220 (c_X5_fewestToWatch _ _ _ k q m hqb hmb S n hm hR hk) (pc := 44) dX5_guard_44 rfl ⟨Nat.le_of_ble_eq_true rfl, Nat.le_of_ble_eq_true rfl⟩ (Nat.le_of_ble_eq_true rfl) hcs (kqI (fun N44 r44 => ?_))
          refine r_st [_, _, _, _, _, _] (pc := 47) dX5_guard_47 (by decide) rfl rfl ?_
          refine r_iload (pc := 49) dX5_guard_49 rfl ?_
          refine r_ldc (pc := 51) dX5_guard_51 lk_X5_219 ?_
          refine r_icmp_eq (tgt := 62) (pc := 53) dX5_guard_53 (by decide) (fun h53 => ?_) (fun h53 => ?_)
          · have e9 : (if gdB (fun i => ¬ nI q < nI (rankN (goP (upd S 4 (nI i)) n m) k n)) (2 ^ n) < 0 ∨ p = 1 then gdB (fun i => ¬ nI q < nI (rankN (goP (upd S 4 (nI i)) n m) k n)) (2 ^ n) else nI (pop (gdB (fun i => ¬ nI q < nI (rankN (goP (upd S 4 (nI i)) n m) k n)) (2 ^ n)).toNatClampNeg)) = gdB (fun i => ¬ nI q < nI (rankN (goP (upd S 4 (nI i)) n m) k n)) (2 ^ n) := if_pos (Or.inl (by rw [h53]; decide))
            refine r_iload (pc := 62) dX5_guard_62 rfl ?_
            refine r_goto (tgt := 72) (pc := 64) dX5_guard_64 (by decide) ?_
            exact r_iret (pc := 72) dX5_guard_72 rfl (by subst hPP; exact (Or.inr ⟨k, q, m, p, hk, hqb, hmb, hpb, rfl, rfl, rfl, rfl, by rw [e9], r44⟩))
          · refine r_iload (pc := 56) dX5_guard_56 rfl ?_
            refine r_iconst (v := nI 1) (pc := 58) dX5_guard_58 (by decide) ?_
            refine r_icmp_ne (tgt := 67) (pc := 59) dX5_guard_59 (by decide) (fun h59 => ?_) (fun h59 => ?_)
            · have h59 : p ≠ 1 := fun z => h59 (by rw [z])
              obtain ⟨b, hbj, eb⟩ := (gdB_is (fun i => ¬ nI q < nI (rankN (goP (upd S 4 (nI i)) n m) k n)) (2 ^ n)).resolve_left h53
              have e9 : (if gdB (fun i => ¬ nI q < nI (rankN (goP (upd S 4 (nI i)) n m) k n)) (2 ^ n) < 0 ∨ p = 1 then gdB (fun i => ¬ nI q < nI (rankN (goP (upd S 4 (nI i)) n m) k n)) (2 ^ n) else nI (pop (gdB (fun i => ¬ nI q < nI (rankN (goP (upd S 4 (nI i)) n m) k n)) (2 ^ n)).toNatClampNeg)) = nI (pop b) := by rw [if_neg (by rw [eb]; rintro (z | z); exact nI_pos (by omega) z; exact h59 z), eb, nI_clamp (by omega)]
              refine r_iload (pc := 67) dX5_guard_67 rfl ?_
              refine r_is (nI b) eb ?_
              refine iv_X5_184 (c_J6_bitCount _ _ _ b (by omega)) (pc := 69) dX5_guard_69 ⟨Nat.le_of_ble_eq_true rfl, Nat.le_of_ble_eq_true rfl⟩ (Nat.le_of_ble_eq_true rfl) hcs (kI ?_)
              exact r_iret (pc := 72) dX5_guard_72 rfl (by subst hPP; exact (Or.inr ⟨k, q, m, p, hk, hqb, hmb, hpb, rfl, rfl, rfl, rfl, by rw [e9], r44⟩))
            · have h59 : p = 1 := (nI_eq (by omega) (by omega)).mp h59
              have e9 : (if gdB (fun i => ¬ nI q < nI (rankN (goP (upd S 4 (nI i)) n m) k n)) (2 ^ n) < 0 ∨ p = 1 then gdB (fun i => ¬ nI q < nI (rankN (goP (upd S 4 (nI i)) n m) k n)) (2 ^ n) else nI (pop (gdB (fun i => ¬ nI q < nI (rankN (goP (upd S 4 (nI i)) n m) k n)) (2 ^ n)).toNatClampNeg)) = gdB (fun i => ¬ nI q < nI (rankN (goP (upd S 4 (nI i)) n m) k n)) (2 ^ n) := if_pos (Or.inr h59)
              refine r_iload (pc := 62) dX5_guard_62 rfl ?_
              refine r_goto (tgt := 72) (pc := 64) dX5_guard_64 (by decide) ?_
              exact r_iret (pc := 72) dX5_guard_72 rfl (by subst hPP; exact (Or.inr ⟨k, q, m, p, hk, hqb, hmb, hpb, rfl, rfl, rfl, rfl, by rw [e9], r44⟩))
        · have g34 : ¬ rgG 0 1 w := fun z => h34 (rg_mpr z (by omega))
          refine r_ldc (pc := 37) dX5_guard_37 lk_X5_67 ?_
          exact r_iret (pc := 39) dX5_guard_39 rfl (by subst hPP; exact (Or.inl ⟨by first | exact fun z => g5 z.1 | exact fun z => g14 z.2.1 | exact fun z => g24 z.2.2.1 | exact fun z => g34 z.2.2.2, rfl, rfl⟩))
set_option maxHeartbeats 4000000 in
set_option maxRecDepth 100000 in
theorem c_X5_highTogether (l : Launch) (G : Gx) (M : Mem) (g : Nat) (hg : g < 64) (S : Nat → Int32) (n : Nat) (hm : ms 18 n S M) (hR : Rg n S) : Con l G yX5_highTogether cX5_highTogether 4 (some .int) 1 22 [.ref (gA G 14), .int (nI g)] M (rI (hiG S g n) M) := by
  refine Con.ofV [some (.ref (gA G 14)), some (.int (nI g)), none, none] RX5 (by decide) rfl (Nat.le_of_ble_eq_true rfl) rfl ?_
  intro κ hl hG hk0 hn0
  subst hl hG
  have hcs : κ.k ≤ 0 ∧ κ.n ≤ 0 := ⟨Nat.le_of_eq hk0, Nat.le_of_eq hn0⟩
  have hn := hm.1
  have hn6 := hR.1
  refine r_iconst (v := nI 0) (pc := 0) dX5_highTogether_0 (by decide) ?_
  refine r_st_n [_, _, _, _] (pc := 1) dX5_highTogether_1 (by decide) rfl rfl ?_
  refine r_iconst (v := nI 0) (pc := 2) dX5_highTogether_2 (by decide) ?_
  refine r_st_n [_, _, _, _] (pc := 3) dX5_highTogether_3 (by decide) rfl rfl ?_
  refine V.bk (loopV (fun (σ : Nat) => V κ cX5_highTogether RX5 4 (some .int) (rmx 1 22) (QM κ (rI (hiG S g n) M)) M 4 [some (.ref (gA κ.G 14)), some (.int (nI g)), some (.int (hiG S g σ)), some (.int (nI σ))] []) (fun (σ : Nat) => σ ≤ n) (fun (σ : Nat) => n - σ) ?_ 0 (Nat.zero_le _)) rfl (by (repeat (first | exact wk_0 | refine wk_n ?_ | refine wk_s rfl ?_)); done)
  rintro j hj ih
  show V κ cX5_highTogether RX5 4 (some .int) (rmx 1 22) (QM κ (rI (hiG S g n) M)) M 4 [some (.ref (gA κ.G 14)), some (.int (nI g)), some (.int (hiG S g j)), some (.int (nI j))] []
  refine r_iload_n (pc := 4) dX5_highTogether_4 rfl ?_
  refine r_aload_n (pc := 5) dX5_highTogether_5 rfl ?_
  refine gf_X5_25 (pc := 6) dX5_highTogether_6 rfl ?_
  refine gf_X5_140 (pc := 9) dX5_highTogether_9 rfl ?_
  refine r_is (nI n) (by first | exact hn | exact (hf.ms hm).1) ?_
  refine r_icmp_ge (tgt := 40) (pc := 12) dX5_highTogether_12 (by decide) (fun h12 => ?_) (fun h12 => ?_)
  · have h12 : n ≤ j := (nI_leI (by omega) (by omega)).mp h12
    obtain rfl : n = j := by omega
    refine r_iload_n (pc := 40) dX5_highTogether_40 rfl ?_
    exact r_iret (pc := 41) dX5_highTogether_41 rfl ⟨rfl, rfl⟩
  · have h12 : j < n := Nat.not_le.mp (fun z => h12 ((nI_leI (by omega) (by omega)).mpr z))
    refine r_iload_n (pc := 15) dX5_highTogether_15 rfl ?_
    refine r_iload_n (pc := 16) dX5_highTogether_16 rfl ?_
    refine r_ishr (pc := 17) dX5_highTogether_17 ?_
    refine r_iconst (v := nI 1) (pc := 18) dX5_highTogether_18 (by decide) ?_
    refine r_iand (pc := 19) dX5_highTogether_19 ?_
    refine r_if_eq (tgt := 34) (pc := 20) dX5_highTogether_20 (by decide) (fun h20 => ?_) (fun h20 => ?_)
    · have e9 : hiG S g (j + 1) = hiG S g j := by rw [hiG_s S hg (by omega), if_pos h20]
      first | refine r_inc [_, _, _, _] (pc := 34) dX5_highTogether_34 rfl (nI_inc _) (by decide) rfl rfl ?_ | refine r_inc [_, _, _, _] (pc := 34) dX5_highTogether_34 rfl rfl (by decide) rfl rfl ?_
      refine r_goto (tgt := 4) (pc := 37) dX5_highTogether_37 (by decide) ?_
      refine V.bk (ih (j + 1) (by omega) (by omega)) rfl ?_
      rw [e9]
      repeat (first | exact wk_0 | refine wk_n ?_ | refine wk_s rfl ?_)
    · have e9 : hiG S g (j + 1) = hiG S g j + highS S j := by rw [hiG_s S hg (by omega), if_neg h20]
      refine r_iload_n (pc := 23) dX5_highTogether_23 rfl ?_
      refine r_aload_n (pc := 24) dX5_highTogether_24 rfl ?_
      refine gf_X5_25 (pc := 25) dX5_highTogether_25 rfl ?_
      refine r_iload_n (pc := 28) dX5_highTogether_28 rfl ?_
      refine iv_X5_201 (c_X2_highOf_18 _ _ _ j S n hm hR (by omega)) (pc := 29) dX5_highTogether_29 rfl ⟨Nat.le_of_ble_eq_true rfl, Nat.le_of_ble_eq_true rfl⟩ (Nat.le_of_ble_eq_true rfl) hcs (kI ?_)
      first | with_reducible refine r_iaddN (pc := 32) dX5_highTogether_32 ?_ | refine r_iadd (pc := 32) dX5_highTogether_32 ?_
      refine r_st_n [_, _, _, _] (pc := 33) dX5_highTogether_33 (by decide) rfl rfl ?_
      first | refine r_inc [_, _, _, _] (pc := 34) dX5_highTogether_34 rfl (nI_inc _) (by decide) rfl rfl ?_ | refine r_inc [_, _, _, _] (pc := 34) dX5_highTogether_34 rfl rfl (by decide) rfl rfl ?_
      refine r_goto (tgt := 4) (pc := 37) dX5_highTogether_37 (by decide) ?_
      refine V.bk (ih (j + 1) (by omega) (by omega)) rfl ?_
      rw [e9]
      repeat (first | exact wk_0 | refine wk_n ?_ | refine wk_s rfl ?_)
set_option maxHeartbeats 4000000 in
set_option maxRecDepth 100000 in
theorem c_X5_fewestAboveHalf (l : Launch) (G : Gx) (M : Mem) (S : Nat → Int32) (n : Nat) (hm : ms 18 n S M) (hR : Rg n S) (hn1 : 0 < n) : Con l G yX5_fewestAboveHalf cX5_fewestAboveHalf 4 (some .int) 2 60 [.ref (gA G 14)] M (rI (gdB (fun i => ¬ nI 2 * hiG S i n ≤ hiN S n) (2 ^ n)) M) := by
  refine Con.ofV [some (.ref (gA G 14)), none, none, none] RX5 (by decide) rfl (Nat.le_of_ble_eq_true rfl) rfl ?_
  intro κ hl hG hk0 hn0
  subst hl hG
  have hcs : κ.k ≤ 0 ∧ κ.n ≤ 0 := ⟨Nat.le_of_eq hk0, Nat.le_of_eq hn0⟩
  have hn := hm.1
  have hn6 := hR.1
  have h64n := two6 n hn6
  have hp1 : 1 ≤ 2 ^ n := Nat.one_le_two_pow
  refine r_aload_n (pc := 0) dX5_fewestAboveHalf_0 rfl ?_
  refine r_iconst (v := nI 1) (pc := 1) dX5_fewestAboveHalf_1 (by decide) ?_
  refine r_aload_n (pc := 2) dX5_fewestAboveHalf_2 rfl ?_
  refine gf_X5_25 (pc := 3) dX5_fewestAboveHalf_3 rfl ?_
  refine gf_X5_140 (pc := 6) dX5_fewestAboveHalf_6 rfl ?_
  refine r_is (nI n) (by first | exact hn | exact (hf.ms hm).1) ?_
  refine r_ishl (pc := 9) dX5_fewestAboveHalf_9 ?_
  refine r_is (nI (2 ^ n)) (shl1 n hn6) ?_
  refine r_iconst (v := nI 1) (pc := 10) dX5_fewestAboveHalf_10 (by decide) ?_
  first | (with_reducible refine r_isubN (pc := 11) dX5_fewestAboveHalf_11 ?hle ?_; case hle => omega) | refine r_isub (pc := 11) dX5_fewestAboveHalf_11 ?_
  refine iv_X5_314 (c_X5_highTogether _ _ _ (2 ^ n - 1) (by omega) S n hm hR) (pc := 12) dX5_fewestAboveHalf_12 rfl ⟨Nat.le_of_ble_eq_true rfl, Nat.le_of_ble_eq_true rfl⟩ (Nat.le_of_ble_eq_true rfl) hcs (kI ?_)
  refine r_is (hiN S n) (hiG_all S hn6 n (Nat.le_refl n)) ?_
  refine r_st_n [_, _, _, _] (pc := 15) dX5_fewestAboveHalf_15 (by decide) rfl rfl ?_
  refine r_iconst (v := nI 0) (pc := 16) dX5_fewestAboveHalf_16 (by decide) ?_
  refine r_st_n [_, _, _, _] (pc := 17) dX5_fewestAboveHalf_17 (by decide) rfl rfl ?_
  refine V.bk (loopV (fun (σ : Nat) => V κ cX5_fewestAboveHalf RX5 4 (some .int) (rmx 2 60) (QM κ (rI (gdB (fun i => ¬ nI 2 * hiG S i n ≤ hiN S n) (2 ^ n)) M)) M 18 [some (.ref (gA κ.G 14)), some (.int (hiN S n)), some (.int (nI σ)), none] []) (fun (σ : Nat) => σ ≤ n + 1 ∧ ∀ i, i < 2 ^ n → pop i < σ → ¬ (fun i => ¬ nI 2 * hiG S i n ≤ hiN S n) i) (fun (σ : Nat) => n + 1 - σ) ?_ 0 ⟨Nat.zero_le _, fun i _ h => absurd h (Nat.not_lt_zero _)⟩) rfl (by (repeat (first | exact wk_0 | refine wk_n ?_ | refine wk_s rfl ?_)); done)
  rintro a ⟨ha, hi⟩ ih1
  show V κ cX5_fewestAboveHalf RX5 4 (some .int) (rmx 2 60) (QM κ (rI (gdB (fun i => ¬ nI 2 * hiG S i n ≤ hiN S n) (2 ^ n)) M)) M 18 [some (.ref (gA κ.G 14)), some (.int (hiN S n)), some (.int (nI a)), none] []
  refine r_iload_n (pc := 18) dX5_fewestAboveHalf_18 rfl ?_
  refine r_aload_n (pc := 19) dX5_fewestAboveHalf_19 rfl ?_
  refine gf_X5_25 (pc := 20) dX5_fewestAboveHalf_20 rfl ?_
  refine gf_X5_140 (pc := 23) dX5_fewestAboveHalf_23 rfl ?_
  refine r_is (nI n) (by first | exact hn | exact (hf.ms hm).1) ?_
  refine r_icmp_gt (tgt := 77) (pc := 26) dX5_fewestAboveHalf_26 (by decide) (fun h26 => ?_) (fun h26 => ?_)
  · have ha2 : a = n + 1 := by have := (nI_ltI (by omega) (by omega)).mp h26; omega
    refine r_ldc (pc := 77) dX5_fewestAboveHalf_77 lk_X5_219 ?_
    exact r_iret (pc := 79) dX5_fewestAboveHalf_79 rfl ⟨by rw [← fw_gd h64n (Or.inl ⟨rfl, fun i z => hi i z (by have := pop_n n hn6 i (by omega) z; omega)⟩)], rfl⟩
  · have ha2 : a ≤ n := Nat.not_lt.mp (fun z => h26 (nI_lt z (by omega)))
    refine r_iconst (v := nI 0) (pc := 29) dX5_fewestAboveHalf_29 (by decide) ?_
    refine r_st_n [_, _, _, _] (pc := 30) dX5_fewestAboveHalf_30 (by decide) rfl rfl ?_
    refine V.bk (loopV (fun (σ : Nat) => V κ cX5_fewestAboveHalf RX5 4 (some .int) (rmx 2 60) (QM κ (rI (gdB (fun i => ¬ nI 2 * hiG S i n ≤ hiN S n) (2 ^ n)) M)) M 31 [some (.ref (gA κ.G 14)), some (.int (hiN S n)), some (.int (nI a)), some (.int (nI σ))] []) (fun (σ : Nat) => σ ≤ 2 ^ n ∧ ∀ i, i < σ → pop i = a → ¬ (fun i => ¬ nI 2 * hiG S i n ≤ hiN S n) i) (fun (σ : Nat) => 2 ^ n - σ) ?_ 0 ⟨Nat.zero_le _, fun i h => absurd h (Nat.not_lt_zero _)⟩) rfl (by (repeat (first | exact wk_0 | refine wk_n ?_ | refine wk_s rfl ?_)); done)
    rintro g ⟨hg2, hg⟩ ih2
    show V κ cX5_fewestAboveHalf RX5 4 (some .int) (rmx 2 60) (QM κ (rI (gdB (fun i => ¬ nI 2 * hiG S i n ≤ hiN S n) (2 ^ n)) M)) M 31 [some (.ref (gA κ.G 14)), some (.int (hiN S n)), some (.int (nI a)), some (.int (nI g))] []
    refine r_iload_n (pc := 31) dX5_fewestAboveHalf_31 rfl ?_
    refine r_iconst (v := nI 1) (pc := 32) dX5_fewestAboveHalf_32 (by decide) ?_
    refine r_aload_n (pc := 33) dX5_fewestAboveHalf_33 rfl ?_
    refine gf_X5_25 (pc := 34) dX5_fewestAboveHalf_34 rfl ?_
    refine gf_X5_140 (pc := 37) dX5_fewestAboveHalf_37 rfl ?_
    refine r_is (nI n) (by first | exact hn | exact (hf.ms hm).1) ?_
    refine r_ishl (pc := 40) dX5_fewestAboveHalf_40 ?_
    refine r_is (nI (2 ^ n)) (shl1 n hn6) ?_
    refine r_icmp_ge (tgt := 71) (pc := 41) dX5_fewestAboveHalf_41 (by decide) (fun h41 => ?_) (fun h41 => ?_)
    · have hg3 : g = 2 ^ n := by have := (nI_leI (by omega) (by omega)).mp h41; omega
      subst hg3
      first | refine r_inc [_, _, _, _] (pc := 71) dX5_fewestAboveHalf_71 rfl (nI_inc _) (by decide) rfl rfl ?_ | refine r_inc [_, _, _, _] (pc := 71) dX5_fewestAboveHalf_71 rfl rfl (by decide) rfl rfl ?_
      refine r_goto (tgt := 18) (pc := 74) dX5_fewestAboveHalf_74 (by decide) ?_
      exact V.bk (ih1 (a + 1) ⟨by omega, fun i z1 z2 => by
              by_cases z : pop i = a
              · exact hg i (by omega) z
              · exact hi i z1 (by omega)⟩ (by omega)) rfl (by (repeat (first | exact wk_0 | refine wk_n ?_ | refine wk_s rfl ?_)); done)
    · have hg3 : g < 2 ^ n := Nat.not_le.mp (fun z => h41 (nI_le z (by omega)))
      have hpl := pop_le g
      refine r_iload_n (pc := 44) dX5_fewestAboveHalf_44 rfl ?_
      refine iv_X5_184 (c_J6_bitCount _ _ _ g (by omega)) (pc := 45) dX5_fewestAboveHalf_45 ⟨Nat.le_of_ble_eq_true rfl, Nat.le_of_ble_eq_true rfl⟩ (Nat.le_of_ble_eq_true rfl) hcs (kI ?_)
      refine r_iload_n (pc := 48) dX5_fewestAboveHalf_48 rfl ?_
      refine r_icmp_ne (tgt := 65) (pc := 49) dX5_fewestAboveHalf_49 (by decide) (fun h49 => ?_) (fun h49 => ?_)
      · have hgg : pop g = a → ¬ (fun i => ¬ nI 2 * hiG S i n ≤ hiN S n) g := fun z => absurd (by rw [z]) h49
        first | refine r_inc [_, _, _, _] (pc := 65) dX5_fewestAboveHalf_65 rfl (nI_inc _) (by decide) rfl rfl ?_ | refine r_inc [_, _, _, _] (pc := 65) dX5_fewestAboveHalf_65 rfl rfl (by decide) rfl rfl ?_
        refine r_goto (tgt := 31) (pc := 68) dX5_fewestAboveHalf_68 (by decide) ?_
        exact V.bk (ih2 (g + 1) ⟨by omega, fun i z1 z2 => by
                by_cases z : i = g
                · subst z; exact hgg z2
                · exact hg i (by omega) z2⟩ (by omega)) rfl (by (repeat (first | exact wk_0 | refine wk_n ?_ | refine wk_s rfl ?_)); done)
      · have e49 : pop g = a := (nI_eq (by omega) (by omega)).mp h49
        refine r_iconst (v := nI 2) (pc := 52) dX5_fewestAboveHalf_52 (by decide) ?_
        refine r_aload_n (pc := 53) dX5_fewestAboveHalf_53 rfl ?_
        refine r_iload_n (pc := 54) dX5_fewestAboveHalf_54 rfl ?_
        refine iv_X5_314 (c_X5_highTogether _ _ _ g (by omega) S n hm hR) (pc := 55) dX5_fewestAboveHalf_55 rfl ⟨Nat.le_of_ble_eq_true rfl, Nat.le_of_ble_eq_true rfl⟩ (Nat.le_of_ble_eq_true rfl) hcs (kI ?_)
        first | with_reducible refine r_imulN (pc := 58) dX5_fewestAboveHalf_58 ?_ | refine r_imul (pc := 58) dX5_fewestAboveHalf_58 ?_
        refine r_iload_n (pc := 59) dX5_fewestAboveHalf_59 rfl ?_
        refine r_icmp_le (tgt := 65) (pc := 60) dX5_fewestAboveHalf_60 (by decide) (fun h60 => ?_) (fun h60 => ?_)
        · have hgg : pop g = a → ¬ (fun i => ¬ nI 2 * hiG S i n ≤ hiN S n) g := fun _ y => y h60
          first | refine r_inc [_, _, _, _] (pc := 65) dX5_fewestAboveHalf_65 rfl (nI_inc _) (by decide) rfl rfl ?_ | refine r_inc [_, _, _, _] (pc := 65) dX5_fewestAboveHalf_65 rfl rfl (by decide) rfl rfl ?_
          refine r_goto (tgt := 31) (pc := 68) dX5_fewestAboveHalf_68 (by decide) ?_
          exact V.bk (ih2 (g + 1) ⟨by omega, fun i z1 z2 => by
                  by_cases z : i = g
                  · subst z; exact hgg z2
                  · exact hg i (by omega) z2⟩ (by omega)) rfl (by (repeat (first | exact wk_0 | refine wk_n ?_ | refine wk_s rfl ?_)); done)
        · refine r_iload_n (pc := 63) dX5_fewestAboveHalf_63 rfl ?_
          exact r_iret (pc := 64) dX5_fewestAboveHalf_64 rfl ⟨by rw [← fw_gd h64n (Or.inr ⟨g, hg3, rfl, h60, fun i z1 z2 => by
                  by_cases y1 : pop i < a
                  · exact absurd z2 (hi i z1 y1)
                  · by_cases y2 : pop i = a
                    · exact Or.inr ⟨by omega, Nat.not_lt.mp (fun y => hg i y y2 z2)⟩
                    · exact Or.inl (by omega)⟩)], rfl⟩
set_option maxHeartbeats 4000000 in
set_option maxRecDepth 100000 in
theorem c_X5_coalition (l : Launch) (G : Gx) (M : Mem) (x : Int32) (S : Nat → Int32) (n : Nat) (hm : ms 18 n S M) (hR : Rg n S) : Con l G yX5_coalition cX5_coalition 3 (some .int) 3 83 [.ref (gA G 14), .int x] M (fun v M' => (n = 0 ∧ rI cState M v M') ∨ (0 < n ∧ ¬ (rgG 0 1 x) ∧ rI cBad M v M') ∨ (0 < n ∧ ∃ p, p ≤ 1 ∧ x = nI p ∧ rI (if gdB (fun i => ¬ nI 2 * hiG S i n ≤ hiN S n) (2 ^ n) < 0 ∨ p = 1 then gdB (fun i => ¬ nI 2 * hiG S i n ≤ hiN S n) (2 ^ n) else nI (pop (gdB (fun i => ¬ nI 2 * hiG S i n ≤ hiN S n) (2 ^ n)).toNatClampNeg)) M v M')) := by
  refine Con.ofV [some (.ref (gA G 14)), some (.int x), none] RX5 (by decide) rfl (Nat.le_of_ble_eq_true rfl) rfl ?_
  intro κ hl hG hk0 hn0
  subst hl hG
  have hcs : κ.k ≤ 0 ∧ κ.n ≤ 0 := ⟨Nat.le_of_eq hk0, Nat.le_of_eq hn0⟩
  generalize hPP : (fun v M' => (n = 0 ∧ rI cState M v M') ∨ (0 < n ∧ ¬ (rgG 0 1 x) ∧ rI cBad M v M') ∨ (0 < n ∧ ∃ p, p ≤ 1 ∧ x = nI p ∧ rI (if gdB (fun i => ¬ nI 2 * hiG S i n ≤ hiN S n) (2 ^ n) < 0 ∨ p = 1 then gdB (fun i => ¬ nI 2 * hiG S i n ≤ hiN S n) (2 ^ n) else nI (pop (gdB (fun i => ¬ nI 2 * hiG S i n ≤ hiN S n) (2 ^ n)).toNatClampNeg)) M v M')) = PP
  have hn := hm.1
  have hn6 := hR.1
  have h64n := two6 n hn6
  refine r_aload_n (pc := 0) dX5_coalition_0 rfl ?_
  refine iv_X5_149 (c_X5_isEmpty _ _ _ n (by first | assumption | exact hm.1) hn6) (pc := 1) dX5_coalition_1 rfl ⟨Nat.le_of_ble_eq_true rfl, Nat.le_of_ble_eq_true rfl⟩ (Nat.le_of_ble_eq_true rfl) hcs (kI ?_)
  refine r_ifeq_b (tgt := 10) (pc := 4) dX5_coalition_4 (by decide) (fun h4 => ?_) (fun h4 => ?_)
  · have hn1 : 0 < n := Nat.pos_of_ne_zero h4
    refine r_iload_n (pc := 10) dX5_coalition_10 rfl ?_
    refine r_iconst (v := nI 0) (pc := 11) dX5_coalition_11 (by decide) ?_
    refine r_iconst (v := nI 1) (pc := 12) dX5_coalition_12 (by decide) ?_
    refine iv_X5_63 (c_X5_within _ _ _ _ _ _) (pc := 13) dX5_coalition_13 ⟨Nat.le_of_ble_eq_true rfl, Nat.le_of_ble_eq_true rfl⟩ (Nat.le_of_ble_eq_true rfl) hcs (kI ?_)
    refine r_ifne_b (tgt := 22) (pc := 16) dX5_coalition_16 (by decide) (fun h16 => ?_) (fun h16 => ?_)
    · obtain ⟨p, hpa, hpb, rfl⟩ := rg_mp (a := 0) (b := 1) h16 (by omega) (by omega)
      refine r_aload_n (pc := 22) dX5_coalition_22 rfl ?_
      refine iv_X5_238 (c_X5_fewestAboveHalf _ _ _ S n hm hR hn1) (pc := 23) dX5_coalition_23 rfl ⟨Nat.le_of_ble_eq_true rfl, Nat.le_of_ble_eq_true rfl⟩ (Nat.le_of_ble_eq_true rfl) hcs (kI ?_)
      refine r_st_n [_, _, _] (pc := 26) dX5_coalition_26 (by decide) rfl rfl ?_
      refine r_iload_n (pc := 27) dX5_coalition_27 rfl ?_
      refine r_ldc (pc := 28) dX5_coalition_28 lk_X5_219 ?_
      refine r_icmp_eq (tgt := 38) (pc := 30) dX5_coalition_30 (by decide) (fun h30 => ?_) (fun h30 => ?_)
      · have e9 : (if gdB (fun i => ¬ nI 2 * hiG S i n ≤ hiN S n) (2 ^ n) < 0 ∨ p = 1 then gdB (fun i => ¬ nI 2 * hiG S i n ≤ hiN S n) (2 ^ n) else nI (pop (gdB (fun i => ¬ nI 2 * hiG S i n ≤ hiN S n) (2 ^ n)).toNatClampNeg)) = gdB (fun i => ¬ nI 2 * hiG S i n ≤ hiN S n) (2 ^ n) := if_pos (Or.inl (by rw [h30]; decide))
        refine r_iload_n (pc := 38) dX5_coalition_38 rfl ?_
        refine r_goto (tgt := 46) (pc := 39) dX5_coalition_39 (by decide) ?_
        exact r_iret (pc := 46) dX5_coalition_46 rfl (by subst hPP; exact (Or.inr (Or.inr ⟨hn1, p, hpb, rfl, by rw [e9], rfl⟩)))
      · refine r_iload_n (pc := 33) dX5_coalition_33 rfl ?_
        refine r_iconst (v := nI 1) (pc := 34) dX5_coalition_34 (by decide) ?_
        refine r_icmp_ne (tgt := 42) (pc := 35) dX5_coalition_35 (by decide) (fun h35 => ?_) (fun h35 => ?_)
        · have h35 : p ≠ 1 := fun z => h35 (by rw [z])
          obtain ⟨b, hbj, eb⟩ := (gdB_is (fun i => ¬ nI 2 * hiG S i n ≤ hiN S n) (2 ^ n)).resolve_left h30
          have e9 : (if gdB (fun i => ¬ nI 2 * hiG S i n ≤ hiN S n) (2 ^ n) < 0 ∨ p = 1 then gdB (fun i => ¬ nI 2 * hiG S i n ≤ hiN S n) (2 ^ n) else nI (pop (gdB (fun i => ¬ nI 2 * hiG S i n ≤ hiN S n) (2 ^ n)).toNatClampNeg)) = nI (pop b) := by rw [if_neg (by rw [eb]; rintro (z | z); exact nI_pos (by omega) z; exact h35 z), eb, nI_clamp (by omega)]
          refine r_iload_n (pc := 42) dX5_coalition_42 rfl ?_
          refine r_is (nI b) eb ?_
          refine iv_X5_184 (c_J6_bitCount _ _ _ b (by omega)) (pc := 43) dX5_coalition_43 ⟨Nat.le_of_ble_eq_true rfl, Nat.le_of_ble_eq_true rfl⟩ (Nat.le_of_ble_eq_true rfl) hcs (kI ?_)
          exact r_iret (pc := 46) dX5_coalition_46 rfl (by subst hPP; exact (Or.inr (Or.inr ⟨hn1, p, hpb, rfl, by rw [e9], rfl⟩)))
        · have h35 : p = 1 := (nI_eq (by omega) (by omega)).mp h35
          have e9 : (if gdB (fun i => ¬ nI 2 * hiG S i n ≤ hiN S n) (2 ^ n) < 0 ∨ p = 1 then gdB (fun i => ¬ nI 2 * hiG S i n ≤ hiN S n) (2 ^ n) else nI (pop (gdB (fun i => ¬ nI 2 * hiG S i n ≤ hiN S n) (2 ^ n)).toNatClampNeg)) = gdB (fun i => ¬ nI 2 * hiG S i n ≤ hiN S n) (2 ^ n) := if_pos (Or.inr h35)
          refine r_iload_n (pc := 38) dX5_coalition_38 rfl ?_
          refine r_goto (tgt := 46) (pc := 39) dX5_coalition_39 (by decide) ?_
          exact r_iret (pc := 46) dX5_coalition_46 rfl (by subst hPP; exact (Or.inr (Or.inr ⟨hn1, p, hpb, rfl, by rw [e9], rfl⟩)))
    · have g16 : ¬ rgG 0 1 x := fun z => h16 (rg_mpr z (by omega))
      refine r_ldc (pc := 19) dX5_coalition_19 lk_X5_67 ?_
      exact r_iret (pc := 21) dX5_coalition_21 rfl (by subst hPP; exact (Or.inr (Or.inl ⟨hn1, g16, rfl, rfl⟩)))
  · have g4 : n = 0 := h4
    refine r_ldc (pc := 7) dX5_coalition_7 lk_X5_148 ?_
    exact r_iret (pc := 9) dX5_coalition_9 rfl (by subst hPP; exact (Or.inl ⟨g4, rfl, rfl⟩))
