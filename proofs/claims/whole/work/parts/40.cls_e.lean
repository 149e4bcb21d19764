theorem seen_w {I : Nat → Int32} {n : Nat} (hn : n ≤ 6) : ∀ j, okN I n j → ∃ w, w < 64 ∧ seenN I j = nI w
  | 0, _ => ⟨0, by decide, rfl⟩
  | j + 1, h => by
    obtain ⟨w, hw, e⟩ := seen_w hn j (fun i hi => h i (by omega))
    obtain ⟨c, hc, ec⟩ := (h j (by omega)).1
    refine ⟨w ||| 2 ^ c, Nat.or_lt_two_pow (n := 6) hw (Nat.pow_lt_pow_right (by decide) (by omega)), ?_⟩
    rw [seenN, e, ec, shl1 c (by omega), fa_or]
theorem hasB_nw : ∀ w : Nat, w < 64 → ∀ c : Nat, c < 6 → ((nI w >>> (nI c &&& 31)) &&& nI 1 = 0 ↔ ¬ hasB (nI w) (nI c)) := by decide +kernel
def foR (M : Mem) (n r : Nat) (i : Int32) (c : Nat) (N : Mem) : Prop := ((c = 1 ∨ c = 2) ∧ LC (M 2 r) i n c) ∨ (c = 3 ∧ LC (M 2 r) i n 0 ∧ ∃ p, i = nI p ∧ p + n ≤ 40 ∧ ¬ okN (fun j => M 3 (40 * r + p + j)) n n) ∨ (c = 0 ∧ LC (M 2 r) i n 0 ∧ ∃ p, i = nI p ∧ p + n ≤ 40 ∧ okN (fun j => M 3 (40 * r + p + j)) n n ∧ ∀ k, k < n → N 39 k = M 3 (40 * r + p + k))
/-- two chairs of a told order are two -/
theorem seen_has {I : Nat → Int32} {n : Nat} (hn : n ≤ 6) : ∀ j, okN I n j → ∀ w, seenN I j = nI w → w < 64 → ∀ i, i < j → w.testBit (cI I i) = true
  | 0, _, _, _, _, i, hi => absurd hi (Nat.not_lt_zero i)
  | j + 1, h, w, e, hw, i, hi => by
    have h0 : okN I n j := fun i hi => h i (by omega)
    obtain ⟨w0, hw0, e0⟩ := seen_w hn j h0
    obtain ⟨c, hc, ec⟩ := (h j (by omega)).1
    have hcl : cI I j = c := by unfold cI; rw [ec, nI_clamp (by omega)]
    rw [seenN, e0, ec, shl1 c (by omega), fa_or] at e
    have hlt : w0 ||| 2 ^ c < 64 := Nat.or_lt_two_pow (n := 6) hw0 (Nat.pow_lt_pow_right (by decide) (by omega))
    have ew : w0 ||| 2 ^ c = w := (nI_eq (by omega) (by omega)).mp e
    rw [← ew, fb_bit_set]
    by_cases z : i = j
    · subst z
      rw [hcl]
      simp
    · rw [seen_has hn j h0 w0 e0 hw0 i (by omega)]
      rfl
theorem okN_inj {I : Nat → Int32} {n m i j : Nat} (hn : n ≤ 6) (h : okN I n m) (hij : i < j) (hj : j < m) : cI I i ≠ cI I j := by
  intro z
  have h0 : okN I n j := fun i hi => h i (by omega)
  obtain ⟨w, hw, e⟩ := seen_w hn j h0
  obtain ⟨⟨c, hc, ec⟩, hno⟩ := h j hj
  have hcl : cI I j = c := by unfold cI; rw [ec, nI_clamp (by omega)]
  have hb := seen_has hn j h0 w e hw i hij
  rw [z, hcl] at hb
  apply hno
  rw [e, ec]
  exact (hasB_bit w hw c (by omega)).mpr hb
theorem abv_isAb {S : Nat → Int32} {a c n : Nat} (ha : a < n) (hc : c < n) (hn : n ≤ 6) : abv S a c = true ↔ isAb (highS S a) (nI a) (highS S c) (nI c) := by
  show _ ↔ (highS S c < highS S a ∨ (highS S a = highS S c ∧ nI a < nI c))
  unfold abv
  rw [Bool.or_eq_true_iff, Bool.and_eq_true, decide_eq_true_iff, decide_eq_true_iff, decide_eq_true_iff, nI_ltI (by omega) (by omega)]
def sdR (S : Nat → Int32) (cf : Nat → Nat) (n k t : Nat) (T : Nat → Int32) : Prop := t ≤ 60 * k ∧ (∀ c, c < n → T (5 + c) = S (5 + c) ∧ T (29 + c) = S (29 + c)) ∧ (∀ j, k ≤ j → j < n → T (11 + cf j) = S (11 + cf j)) ∧ sdN S cf (k - 1) = some (t, highS T (cf (k - 1)))
theorem high_upd11 {S : Nat → Int32} {a c : Nat} {v : Int32} (h : a ≠ c) (ha : a < 6) (hc : c < 6) : highS (upd S (11 + c) v) a = highS S a := by
  unfold highS
  rw [pk_un (by omega), pk_un (by omega), pk_un (by omega)]
theorem high_own11 {S : Nat → Int32} {c : Nat} {v : Int32} (hc : c < 6) : highS (upd S (11 + c) v) c = highB (S (5 + c)) v (S (29 + c)) := by
  unfold highS
  rw [pk_un (by omega), pk_us, pk_un (by omega)]
theorem high_upd29 {S : Nat → Int32} {a c : Nat} {v : Int32} (h : a ≠ c) (ha : a < 6) (hc : c < 6) : highS (upd S (29 + c) v) a = highS S a := by
  unfold highS
  rw [pk_un (by omega), pk_un (by omega), pk_un (by omega)]
theorem high_own29 {S : Nat → Int32} {c : Nat} {v : Int32} (hc : c < 6) : highS (upd S (29 + c) v) c = highB (S (5 + c)) (S (11 + c)) v := by
  unfold highS
  rw [pk_un (by omega), pk_un (by omega), pk_us]
theorem sdR_next {S : Nat → Int32} {cf : Nat → Nat} {n k t l : Nat} {T : Nat → Int32} (h : sdR S cf n k t T) (hk1 : 1 ≤ k) (hk : k < n) (hn : n ≤ 6) (hcf : ∀ k, k < n → cf k < n) (hinj : ∀ i j, i < j → j < n → cf i ≠ cf j) (hL : lgS S (cf k) ≤ 60) (hl : l ≤ lgS S (cf k)) (hd : dnN S (highS T (cf (k - 1))) (cf (k - 1)) (cf k) (lgS S (cf k)) = some l) : sdR S cf n (k + 1) (t + (lgS S (cf k) - l)) (upd T (11 + cf k) (nI l)) := by
  obtain ⟨h1, h2, h3, h4⟩ := h
  have hck := hcf k hk
  refine ⟨by omega, fun c hc => by rw [pk_un (by omega), pk_un (by omega)]; exact h2 c hc, fun j hj hjn => ?_, ?_⟩
  · have := hinj k j (by omega) hjn
    rw [pk_un (by omega)]
    exact h3 j (by omega) hjn
  · rw [show k + 1 - 1 = (k - 1) + 1 by omega, sdN, h4]
    dsimp only
    rw [show k - 1 + 1 = k by omega, hd]
    dsimp only
    rw [high_own11 (by omega), (h2 _ hck).1, (h2 _ hck).2]
theorem sdR_none {S : Nat → Int32} {cf : Nat → Nat} {n k t : Nat} {T : Nat → Int32} (h : sdR S cf n k t T) (hk1 : 1 ≤ k) (hk : k < n) (hd : dnN S (highS T (cf (k - 1))) (cf (k - 1)) (cf k) (lgS S (cf k)) = none) : sdN S cf (n - 1) = none := by
  have e : sdN S cf k = none := by
    rw [show k = (k - 1) + 1 by omega, sdN, h.2.2.2]
    dsimp only
    rw [show k - 1 + 1 = k by omega, hd]
  rw [show n - 1 = k + (n - 1 - k) by omega]
  exact sdN_no e _
def puR (S : Nat → Int32) (cf : Nat → Nat) (n m t : Nat) (T : Nat → Int32) : Prop := t ≤ 20 * (n - 1 - m) ∧ (∀ c, c < n → T (5 + c) = S (5 + c) ∧ T (11 + c) = S (11 + c)) ∧ (∀ j, j < m → T (29 + cf j) = S (29 + cf j)) ∧ puN S cf n (n - 1 - m) = some (t, highS T (cf m))
theorem puR_next {S : Nat → Int32} {cf : Nat → Nat} {n m t l : Nat} {T : Nat → Int32} (h : puR S cf n (m + 1) t T) (hm : m + 1 < n) (hn : n ≤ 6) (hcf : ∀ k, k < n → cf k < n) (hinj : ∀ i j, i < j → j < n → cf i ≠ cf j) (hl0 : sfS S (cf m) ≤ l) (hl : l ≤ 20) (hd : upN (upP S (highS T (cf (m + 1))) (cf (m + 1)) (cf m)) (21 - sfS S (cf m)) = some l) : puR S cf n m (t + (l - sfS S (cf m))) (upd T (29 + cf m) (nI l)) := by
  obtain ⟨h1, h2, h3, h4⟩ := h
  have hck := hcf m (by omega)
  refine ⟨by omega, fun c hc => by rw [pk_un (by omega), pk_un (by omega)]; exact h2 c hc, fun j hj => ?_, ?_⟩
  · have := hinj j m hj (by omega)
    rw [pk_un (by omega)]
    exact h3 j (by omega)
  · rw [show n - 1 - m = (n - 1 - (m + 1)) + 1 by omega, puN, h4]
    dsimp only
    rw [show n - 1 - (n - 1 - (m + 1)) = m + 1 by omega, show n - 2 - (n - 1 - (m + 1)) = m by omega, hd]
    dsimp only
    rw [high_own29 (by omega), (h2 _ hck).1, (h2 _ hck).2]
theorem puR_none {S : Nat → Int32} {cf : Nat → Nat} {n m t : Nat} {T : Nat → Int32} (h : puR S cf n (m + 1) t T) (hm : m + 1 < n) (hd : upN (upP S (highS T (cf (m + 1))) (cf (m + 1)) (cf m)) (21 - sfS S (cf m)) = none) : puN S cf n (n - 1) = none := by
  have e : puN S cf n (n - 1 - m) = none := by
    rw [show n - 1 - m = (n - 1 - (m + 1)) + 1 by omega, puN, h.2.2.2]
    dsimp only
    rw [show n - 1 - (n - 1 - (m + 1)) = m + 1 by omega, show n - 2 - (n - 1 - (m + 1)) = m by omega, hd]
  rw [show n - 1 = (n - 1 - m) + m by omega]
  exact puN_no e _
set_option maxHeartbeats 4000000 in
set_option maxRecDepth 100000 in
theorem c_X5_findingOfOrder (l : Launch) (G : Gx) (M : Mem) (r : Nat) (hr : r ≤ 7) (i : Int32) (S : Nat → Int32) (n : Nat) (hm : ms 18 n S M) (hR : Rg n S) (hW : rwR M) : Con l G yX5_findingOfOrder cX5_findingOfOrder 7 (some .int) 2 45 [.ref (gA G 14), .int (nI r), .int i] M (qE (fun c N5 => c ≤ 3 ∧ fpc M N5 ∧ foR M n r i c N5)) := by
  refine Con.ofV [some (.ref (gA G 14)), some (.int (nI r)), some (.int i), none, none, none, none] RX5 (by decide) rfl (Nat.le_of_ble_eq_true rfl) rfl ?_
  intro κ hl hG hk0 hn0
  subst hl hG
  have hcs : κ.k ≤ 0 ∧ κ.n ≤ 0 := ⟨Nat.le_of_eq hk0, Nat.le_of_eq hn0⟩
  generalize hPP : (qE (fun c N5 => c ≤ 3 ∧ fpc M N5 ∧ foR M n r i c N5)) = PP
  have hn := hm.1
  have hn6 := hR.1
  refine r_aload_n (pc := 0) dX5_findingOfOrder_0 rfl ?_
  refine r_iload_n (pc := 1) dX5_findingOfOrder_1 rfl ?_
  refine r_iload_n (pc := 2) dX5_findingOfOrder_2 rfl ?_
  refine r_aload_n (pc := 3) dX5_findingOfOrder_3 rfl ?_
  refine gf_X5_25 (pc := 4) dX5_findingOfOrder_4 rfl ?_
  refine gf_X5_140 (pc := 7) dX5_findingOfOrder_7 rfl ?_
  refine r_is (nI n) (by first | exact hn | exact (hf.ms hm).1) ?_
  refine iv_X5_79 (c_X5_findingOfItems _ _ _ r hr i n (by omega) hW) (pc := 10) dX5_findingOfOrder_10 rfl ⟨Nat.le_of_ble_eq_true rfl, Nat.le_of_ble_eq_true rfl⟩ (Nat.le_of_ble_eq_true rfl) hcs (kqE (fun c10 N10 r10 => ?_))
  obtain ⟨hc2, hLC, rfl⟩ := r10
  refine r_st_n [_, _, _, _, _, _, _] (pc := 13) dX5_findingOfOrder_13 (by decide) rfl rfl ?_
  refine r_iload_n (pc := 14) dX5_findingOfOrder_14 rfl ?_
  refine r_if_eq (tgt := 20) (pc := 15) dX5_findingOfOrder_15 (by decide) (fun h15 => ?_) (fun h15 => ?_)
  · have hc0 : c10 = 0 := (nI_eq (by omega) (by omega)).mp (h15.trans nI_0.symm)
    subst hc0
    obtain ⟨s, p, hs, hs40, rfl, hp⟩ := LC_0 hLC
    obtain ⟨s2, l2, -, -, -, -, -, -, hit⟩ := (hW r hr).resolve_left (fun z => by rw [hs] at z; exact nI_pos (by omega) z.1)
    refine r_iconst (v := nI 0) (pc := 20) dX5_findingOfOrder_20 (by decide) ?_
    refine r_st [_, _, _, _, _, _, _] (pc := 21) dX5_findingOfOrder_21 (by decide) rfl rfl ?_
    refine r_iconst (v := nI 0) (pc := 23) dX5_findingOfOrder_23 (by decide) ?_
    refine r_st [_, _, _, _, _, _, _] (pc := 24) dX5_findingOfOrder_24 (by decide) rfl rfl ?_
    refine V.bk (loopV (fun (σ : Nat × Mem) => V κ cX5_findingOfOrder RX5 7 (some .int) (rmx 2 45) (QM κ PP) (σ.2) 26 [some (.ref (gA κ.G 14)), some (.int (nI r)), some (.int (nI p)), none, some (.int (seenN (fun i => M 3 (40 * r + p + i)) (σ.1))), some (.int (nI (σ.1))), none] []) (fun (σ : Nat × Mem) => (σ.1) ≤ n ∧ fpc M (σ.2) ∧ okN (fun i => M 3 (40 * r + p + i)) n (σ.1) ∧ ∀ k, k < (σ.1) → (σ.2) 39 k = M 3 (40 * r + p + k)) (fun (σ : Nat × Mem) => n - (σ.1)) ?_ (0, M) ⟨Nat.zero_le _, fpc.refl _, fun i h => absurd h (Nat.not_lt_zero i), fun i h => absurd h (Nat.not_lt_zero i)⟩) rfl (by (repeat (first | exact wk_0 | refine wk_n ?_ | refine wk_s rfl ?_)); done)
    rintro ⟨j, N⟩ hI0 ih
    dsimp only at hI0 ih
    obtain ⟨hj, hf, hok, htd⟩ := hI0
    show V κ cX5_findingOfOrder RX5 7 (some .int) (rmx 2 45) (QM κ PP) N 26 [some (.ref (gA κ.G 14)), some (.int (nI r)), some (.int (nI p)), none, some (.int (seenN (fun i => M 3 (40 * r + p + i)) j)), some (.int (nI j)), none] []
    refine r_iload (pc := 26) dX5_findingOfOrder_26 rfl ?_
    refine r_aload_n (pc := 28) dX5_findingOfOrder_28 rfl ?_
    refine gf_X5_25 (pc := 29) dX5_findingOfOrder_29 rfl ?_
    refine gf_X5_140 (pc := 32) dX5_findingOfOrder_32 rfl ?_
    refine r_is (nI n) (by first | exact hn | exact (hf.ms hm).1) ?_
    refine r_icmp_ge (tgt := 99) (pc := 35) dX5_findingOfOrder_35 (by decide) (fun h35 => ?_) (fun h35 => ?_)
    · have h35 : n ≤ j := (nI_leI (by omega) (by omega)).mp h35
      obtain rfl : n = j := by omega
      refine r_iconst (v := nI 0) (pc := 99) dX5_findingOfOrder_99 (by decide) ?_
      exact r_iret (pc := 100) dX5_findingOfOrder_100 rfl (by subst hPP; exact ⟨0, rfl, by omega, hf, Or.inr (Or.inr ⟨rfl, hLC, p, rfl, by omega, hok, htd⟩)⟩)
    · have h35 : j < n := Nat.not_le.mp (fun z => h35 ((nI_leI (by omega) (by omega)).mpr z))
      refine r_aload_n (pc := 38) dX5_findingOfOrder_38 rfl ?_
      refine gf_X5_11 (pc := 39) dX5_findingOfOrder_39 rfl ?_
      refine r_iload_n (pc := 42) dX5_findingOfOrder_42 rfl ?_
      refine r_aaR (pc := 43) dX5_findingOfOrder_43 (by omega) ?_
      refine gf_X5_99 (pc := 44) dX5_findingOfOrder_44 (clsO_row (by omega) (by omega)) ?_
      refine r_iload_n (pc := 47) dX5_findingOfOrder_47 rfl ?_
      refine r_iload (pc := 48) dX5_findingOfOrder_48 rfl ?_
      first | with_reducible refine r_iaddN (pc := 50) dX5_findingOfOrder_50 ?_ | refine r_iadd (pc := 50) dX5_findingOfOrder_50 ?_
      refine r_iald (pc := 51) dX5_findingOfOrder_51 (isIA_hi (by omega) (by omega)) (by rw [lenA_items (by omega) (by omega)]; omega) ?_
      refine r_is (M 3 (40 * r + p + j)) (by rw [show 45 + r + 8 = 53 + r by omega, hf _ (by omega), hit _ (by omega)]; congr 1; omega) ?_
      refine r_st [_, _, _, _, _, _, _] (pc := 52) dX5_findingOfOrder_52 (by decide) rfl rfl ?_
      obtain ⟨w, hw64, ew⟩ := seen_w (I := (fun i => M 3 (40 * r + p + i))) hn6 j hok
      refine r_aload_n (pc := 54) dX5_findingOfOrder_54 rfl ?_
      refine r_iload (pc := 55) dX5_findingOfOrder_55 rfl ?_
      refine iv_X5_165 (c_X5_isChair _ _ _ _) (pc := 57) dX5_findingOfOrder_57 rfl ⟨Nat.le_of_ble_eq_true rfl, Nat.le_of_ble_eq_true rfl⟩ (Nat.le_of_ble_eq_true rfl) hcs (kI ?_)
      refine r_ifeq_b (tgt := 73) (pc := 60) dX5_findingOfOrder_60 (by decide) (fun h60 => ?_) (fun h60 => ?_)
      · have hbad : ¬ okN (fun i => M 3 (40 * r + p + i)) n n := fun z => h60 (ch_mpr (hf.ms hm).1 hn6 (z j (by omega)).1)
        refine r_iconst (v := nI 3) (pc := 73) dX5_findingOfOrder_73 (by decide) ?_
        exact r_iret (pc := 74) dX5_findingOfOrder_74 rfl (by subst hPP; exact ⟨3, rfl, by omega, hf, Or.inr (Or.inl ⟨rfl, hLC, p, rfl, by omega, hbad⟩)⟩)
      · obtain ⟨d, hd, ed⟩ := ch_mp (hf.ms hm).1 hn6 h60
        refine V.bk (f' := [some (.ref (gA κ.G 14)), some (.int (nI r)), some (.int (nI p)), none, some (.int (seenN (fun i => M 3 (40 * r + p + i)) j)), some (.int (nI j)), some (.int (nI d))]) ?_ rfl (by rw [ed]; (repeat (first | exact wk_0 | refine wk_n ?_ | refine wk_s rfl ?_)); done)
        refine r_iload (pc := 63) dX5_findingOfOrder_63 rfl ?_
        refine r_is (nI w) ew ?_
        refine r_iload (pc := 65) dX5_findingOfOrder_65 rfl ?_
        refine r_ishr (pc := 67) dX5_findingOfOrder_67 ?_
        refine r_iconst (v := nI 1) (pc := 68) dX5_findingOfOrder_68 (by decide) ?_
        refine r_iand (pc := 69) dX5_findingOfOrder_69 ?_
        refine r_if_eq (tgt := 75) (pc := 70) dX5_findingOfOrder_70 (by decide) (fun h70 => ?_) (fun h70 => ?_)
        · have hnb : ¬ hasB (seenN (fun i => M 3 (40 * r + p + i)) j) (M 3 (40 * r + p + j)) := by rw [ew, ed]; exact (hasB_nw w hw64 d (by omega)).mp h70
          refine r_iload (pc := 75) dX5_findingOfOrder_75 rfl ?_
          refine r_iconst (v := nI 1) (pc := 77) dX5_findingOfOrder_77 (by decide) ?_
          refine r_iload (pc := 78) dX5_findingOfOrder_78 rfl ?_
          refine r_ishl (pc := 80) dX5_findingOfOrder_80 ?_
          refine r_ior (pc := 81) dX5_findingOfOrder_81 ?_
          refine r_st [_, _, _, _, _, _, _] (pc := 82) dX5_findingOfOrder_82 (by decide) rfl rfl ?_
          refine r_aload_n (pc := 84) dX5_findingOfOrder_84 rfl ?_
          refine gf_X5_36 (pc := 85) dX5_findingOfOrder_85 rfl ?_
          refine r_iload (pc := 88) dX5_findingOfOrder_88 rfl ?_
          refine r_iload (pc := 90) dX5_findingOfOrder_90 rfl ?_
          refine r_iast (pc := 92) dX5_findingOfOrder_92 rfl (show _ < 6 by omega) ?_
          first | refine r_inc [_, _, _, _, _, _, _] (pc := 93) dX5_findingOfOrder_93 rfl (nI_inc _) (by decide) rfl rfl ?_ | refine r_inc [_, _, _, _, _, _, _] (pc := 93) dX5_findingOfOrder_93 rfl rfl (by decide) rfl rfl ?_
          refine r_goto (tgt := 26) (pc := 96) dX5_findingOfOrder_96 (by decide) ?_
          refine V.bk (ih (j + 1, mset N 39 j (nI d)) ⟨by dsimp only; omega, hf.put 39 j _ (by omega) (by omega), lt_s hok ⟨⟨d, hd, ed⟩, hnb⟩, fun k hk => ?_⟩ (by dsimp only; omega)) rfl ?_
          · dsimp only at hk ⊢
            rw [mset_eq]
            by_cases z : k = j
            · subst z; rw [pk_us]; exact ed.symm
            · rw [pk_un z]; exact htd k (by omega)
          · dsimp only
            rw [show seenN (fun i => M 3 (40 * r + p + i)) (j + 1) = seenN (fun i => M 3 (40 * r + p + i)) j ||| nI 1 <<< (nI d &&& 31) by rw [seenN, ed]]
            repeat (first | exact wk_0 | refine wk_n ?_ | refine wk_s rfl ?_)
        · have hbad : ¬ okN (fun i => M 3 (40 * r + p + i)) n n := fun z => h70 ((hasB_nw w hw64 d (by omega)).mpr (by have := (z j (by omega)).2; rw [ew] at this; dsimp only at this; rw [ed] at this; exact this))
          refine r_iconst (v := nI 3) (pc := 73) dX5_findingOfOrder_73 (by decide) ?_
          exact r_iret (pc := 74) dX5_findingOfOrder_74 rfl (by subst hPP; exact ⟨3, rfl, by omega, hf, Or.inr (Or.inl ⟨rfl, hLC, p, rfl, by omega, hbad⟩)⟩)
  · refine r_iload_n (pc := 18) dX5_findingOfOrder_18 rfl ?_
    exact r_iret (pc := 19) dX5_findingOfOrder_19 rfl (by subst hPP; exact ⟨c10, rfl, by omega, fpc.refl _, Or.inl ⟨by have : c10 ≠ 0 := fun z => h15 (by rw [z]; rfl); omega, hLC⟩⟩)
set_option maxHeartbeats 4000000 in
set_option maxRecDepth 100000 in
theorem e_X5_foresee (l : Launch) (G : Gx) (M : Mem) (S : Nat → Int32) (n : Nat) (hm : ms 18 n S M) (hR : Rg n S) : Con l G yX5_foresee cX5_foresee 1 none 2 81 [.ref (gA G 14)] M (qV (fun N5 => fpc M N5 ∧ ms 28 n S N5 ∧ N5 39 = M 39)) := by
  refine Con.ofV [some (.ref (gA G 14))] RX5 (by decide) rfl (Nat.le_of_ble_eq_true rfl) rfl ?_
  intro κ hl hG hk0 hn0
  subst hl hG
  have hcs : κ.k ≤ 0 ∧ κ.n ≤ 0 := ⟨Nat.le_of_eq hk0, Nat.le_of_eq hn0⟩
  refine r_aload_n (pc := 0) dX5_foresee_0 rfl ?_
  refine gf_X5_25 (pc := 1) dX5_foresee_1 rfl ?_
  refine r_aload_n (pc := 4) dX5_foresee_4 rfl ?_
  refine gf_X5_32 (pc := 5) dX5_foresee_5 rfl ?_
  refine iv_X5_130 (c_X2_writeTo_18 _ _ _ _ rfl rfl (by omega)) (pc := 8) dX5_foresee_8 rfl ⟨Nat.le_of_ble_eq_true rfl, Nat.le_of_ble_eq_true rfl⟩ (Nat.le_of_ble_eq_true rfl) hcs (kV ?_)
  refine r_aload_n (pc := 11) dX5_foresee_11 rfl ?_
  refine gf_X5_29 (pc := 12) dX5_foresee_12 rfl ?_
  refine r_aload_n (pc := 15) dX5_foresee_15 rfl ?_
  refine gf_X5_32 (pc := 16) dX5_foresee_16 rfl ?_
  refine iv_X5_134 (c_X2_readFrom_28 _ _ _ _ rfl rfl (by omega)) (pc := 19) dX5_foresee_19 rfl ⟨Nat.le_of_ble_eq_true rfl, Nat.le_of_ble_eq_true rfl⟩ (Nat.le_of_ble_eq_true rfl) hcs (kV ?_)
  exact r_vret (pc := 22) dX5_foresee_22 rfl ⟨rfl, fun q hq => by rw [RA_fr _ _ _ (by omega), setA_ne _ _ (by omega)], cel_ms (RA_cel _ 28 _) (by rw [setA_eq]; exact cel_cs (WA_cel M 18 _) hm hR.1) hR.1, by rw [RA_fr _ _ _ (by omega), setA_ne _ _ (by omega)]⟩
set_option maxHeartbeats 4000000 in
set_option maxRecDepth 100000 in
theorem c_X5_leastSawdust (l : Launch) (G : Gx) (M : Mem) (S : Nat → Int32) (n : Nat) (hm : ms 18 n S M) (hR : Rg n S) (hn1 : 0 < n) (cf : Nat → Nat) (htd : ∀ k, k < n → M 39 k = nI (cf k)) (hcf : ∀ k, k < n → cf k < n) (hinj : ∀ i j, i < j → j < n → cf i ≠ cf j) : Con l G yX5_leastSawdust cX5_leastSawdust 4 (some .int) 3 101 [.ref (gA G 14)] M (qI (ansO (sdN S cf (n - 1))) (fpc M)) := by
  refine Con.ofV [some (.ref (gA G 14)), none, none, none] RX5 (by decide) rfl (Nat.le_of_ble_eq_true rfl) rfl ?_
  intro κ hl hG hk0 hn0
  subst hl hG
  have hcs : κ.k ≤ 0 ∧ κ.n ≤ 0 := ⟨Nat.le_of_eq hk0, Nat.le_of_eq hn0⟩
  have hn := hm.1
  have hn6 := hR.1
  refine r_aload_n (pc := 0) dX5_leastSawdust_0 rfl ?_
  refine iv_X5_213 (e_X5_foresee _ _ _ S n hm hR) (pc := 1) dX5_leastSawdust_1 rfl ⟨Nat.le_of_ble_eq_true rfl, Nat.le_of_ble_eq_true rfl⟩ (Nat.le_of_ble_eq_true rfl) hcs (kqV (fun N1 r1 => ?_))
  refine r_iconst (v := nI 0) (pc := 4) dX5_leastSawdust_4 (by decide) ?_
  refine r_st_n [_, _, _, _] (pc := 5) dX5_leastSawdust_5 (by decide) rfl rfl ?_
  refine r_iconst (v := nI 1) (pc := 6) dX5_leastSawdust_6 (by decide) ?_
  refine r_st_n [_, _, _, _] (pc := 7) dX5_leastSawdust_7 (by decide) rfl rfl ?_
  refine V.bk (loopV (fun (σ : Nat × Nat × (Nat → Int32) × Mem) => V κ cX5_leastSawdust RX5 4 (some .int) (rmx 3 101) (QM κ (qI (ansO (sdN S cf (n - 1))) (fpc M))) (σ.2.2.2) 8 [some (.ref (gA κ.G 14)), some (.int (nI (σ.2.1))), some (.int (nI (σ.1))), none] []) (fun (σ : Nat × Nat × (Nat → Int32) × Mem) => 1 ≤ (σ.1) ∧ (σ.1) ≤ n ∧ fpc M (σ.2.2.2) ∧ (σ.2.2.2) 39 = M 39 ∧ ms 28 n (σ.2.2.1) (σ.2.2.2) ∧ Rg n (σ.2.2.1) ∧ sdR S cf n (σ.1) (σ.2.1) (σ.2.2.1)) (fun (σ : Nat × Nat × (Nat → Int32) × Mem) => n - (σ.1)) ?_ (1, 0, S, N1) ⟨Nat.le_refl _, hn1, r1.1, r1.2.2, r1.2.1, hR, Nat.zero_le _, fun _ _ => ⟨rfl, rfl⟩, fun _ _ _ => rfl, rfl⟩) rfl (by (repeat (first | exact wk_0 | refine wk_n ?_ | refine wk_s rfl ?_)); done)
  rintro ⟨k, t, T, N⟩ hI0 ih1
  dsimp only at hI0 ih1
  obtain ⟨hk1, hkn, hf, h39, hmT, hRT, hsd⟩ := hI0
  show V κ cX5_leastSawdust RX5 4 (some .int) (rmx 3 101) (QM κ (qI (ansO (sdN S cf (n - 1))) (fpc M))) N 8 [some (.ref (gA κ.G 14)), some (.int (nI t)), some (.int (nI k)), none] []
  refine r_iload_n (pc := 8) dX5_leastSawdust_8 rfl ?_
  refine r_aload_n (pc := 9) dX5_leastSawdust_9 rfl ?_
  refine gf_X5_25 (pc := 10) dX5_leastSawdust_10 rfl ?_
  refine gf_X5_140 (pc := 13) dX5_leastSawdust_13 rfl ?_
  refine r_is (nI n) (by first | exact hn | exact (hf.ms hm).1) ?_
  refine r_icmp_ge (tgt := 104) (pc := 16) dX5_leastSawdust_16 (by decide) (fun h16 => ?_) (fun h16 => ?_)
  · have h16 : n ≤ k := (nI_leI (by omega) (by omega)).mp h16
    obtain rfl : n = k := by omega
    refine r_iload_n (pc := 104) dX5_leastSawdust_104 rfl ?_
    exact r_iret (pc := 105) dX5_leastSawdust_105 rfl ⟨by rw [hsd.2.2.2]; rfl, hf⟩
  · have h16 : k < n := Nat.not_le.mp (fun z => h16 ((nI_leI (by omega) (by omega)).mpr z))
    have hck := hcf k h16
    have hcp := hcf (k - 1) (by omega)
    have hne : cf (k - 1) ≠ cf k := hinj (k - 1) k (by omega) h16
    have hLl := (hR.c hck).lg
    have hm0 : ms 28 n (upd T (11 + cf k) (nI (lgS S (cf k)))) N := by rw [fa_upd_same ((hsd.2.2.1 k (Nat.le_refl k) h16).trans hLl.1)]; exact hmT
    refine r_aload_n (pc := 19) dX5_leastSawdust_19 rfl ?_
    refine gf_X5_36 (pc := 20) dX5_leastSawdust_20 rfl ?_
    refine r_iload_n (pc := 23) dX5_leastSawdust_23 rfl ?_
    refine r_iald (pc := 24) dX5_leastSawdust_24 rfl (show _ < 6 by omega) ?_
    refine r_is (nI (cf k)) (by rw [h39]; exact htd k h16) ?_
    refine r_st_n [_, _, _, _] (pc := 25) dX5_leastSawdust_25 (by decide) rfl rfl ?_
    refine V.bk (loopV (fun (σ : Nat × Mem) => V κ cX5_leastSawdust RX5 4 (some .int) (rmx 3 101) (QM κ (qI (ansO (sdN S cf (n - 1))) (fpc M))) (σ.2) 26 [some (.ref (gA κ.G 14)), some (.int (nI (t + (lgS S (cf k) - (σ.1))))), some (.int (nI k)), some (.int (nI (cf k)))] []) (fun (σ : Nat × Mem) => (σ.1) ≤ lgS S (cf k) ∧ fpc M (σ.2) ∧ (σ.2) 39 = M 39 ∧ ms 28 n (upd T (11 + cf k) (nI (σ.1))) (σ.2) ∧ dnN S (highS T (cf (k - 1))) (cf (k - 1)) (cf k) (lgS S (cf k)) = dnN S (highS T (cf (k - 1))) (cf (k - 1)) (cf k) (σ.1)) (fun (σ : Nat × Mem) => (σ.1)) ?_ (lgS S (cf k), N) ⟨Nat.le_refl _, hf, h39, hm0, rfl⟩) rfl (by rw [Nat.sub_self, Nat.add_zero]; (repeat (first | exact wk_0 | refine wk_n ?_ | refine wk_s rfl ?_)); done)
    rintro ⟨l, K⟩ hI0 ih2
    dsimp only at hI0 ih2
    obtain ⟨hl, hfK, k39, hmK, hdn⟩ := hI0
    show V κ cX5_leastSawdust RX5 4 (some .int) (rmx 3 101) (QM κ (qI (ansO (sdN S cf (n - 1))) (fpc M))) K 26 [some (.ref (gA κ.G 14)), some (.int (nI (t + (lgS S (cf k) - l)))), some (.int (nI k)), some (.int (nI (cf k)))] []
    have hRK := hRT.put (p := 11) (k := cf k) (v := l) (by omega) (by omega)
    have hia := (abv_isAb (S := upd T (11 + cf k) (nI l)) hcp hck hn6)
    rw [high_upd11 hne (by omega) (by omega), high_own11 (by omega), (hsd.2.1 _ hck).1, (hsd.2.1 _ hck).2] at hia
    refine r_aload_n (pc := 26) dX5_leastSawdust_26 rfl ?_
    refine gf_X5_29 (pc := 27) dX5_leastSawdust_27 rfl ?_
    refine gf_X5_171 (pc := 30) dX5_leastSawdust_30 rfl ?_
    refine r_iload_n (pc := 33) dX5_leastSawdust_33 rfl ?_
    refine r_iald (pc := 34) dX5_leastSawdust_34 rfl (show _ < 6 by omega) ?_
    refine r_is (nI l) ((hmK.2.2.2.2.2 _ hck).2.1.trans pk_us) ?_
    refine r_if_le (tgt := 76) (pc := 35) dX5_leastSawdust_35 (by decide) (fun h35 => ?_) (fun h35 => ?_)
    · have hl0 : l = 0 := by have := (nI_leI (a := l) (b := 0) (by omega) (by omega)).mp h35; omega
      refine r_aload_n (pc := 76) dX5_leastSawdust_76 rfl ?_
      refine gf_X5_29 (pc := 77) dX5_leastSawdust_77 rfl ?_
      refine r_aload_n (pc := 80) dX5_leastSawdust_80 rfl ?_
      refine gf_X5_36 (pc := 81) dX5_leastSawdust_81 rfl ?_
      refine r_iload_n (pc := 84) dX5_leastSawdust_84 rfl ?_
      refine r_iconst (v := nI 1) (pc := 85) dX5_leastSawdust_85 (by decide) ?_
      first | (with_reducible refine r_isubN (pc := 86) dX5_leastSawdust_86 ?hle ?_; case hle => omega) | refine r_isub (pc := 86) dX5_leastSawdust_86 ?_
      refine r_iald (pc := 87) dX5_leastSawdust_87 rfl (show _ < 6 by omega) ?_
      refine r_is (nI (cf (k - 1))) (by rw [k39]; exact htd _ (by omega)) ?_
      refine r_iload_n (pc := 88) dX5_leastSawdust_88 rfl ?_
      refine iv_X5_311 (c_X2_isHigher_28 _ _ _ (cf (k - 1)) (cf k) _ n hmK hRK hcp hck) (pc := 89) dX5_leastSawdust_89 rfl ⟨Nat.le_of_ble_eq_true rfl, Nat.le_of_ble_eq_true rfl⟩ (Nat.le_of_ble_eq_true rfl) hcs (kI ?_)
      refine r_ifne_b (tgt := 98) (pc := 92) dX5_leastSawdust_92 (by decide) (fun h92 => ?_) (fun h92 => ?_)
      · have hab := hia.mp h92
        first | refine r_inc [_, _, _, _] (pc := 98) dX5_leastSawdust_98 rfl (nI_inc _) (by decide) rfl rfl ?_ | refine r_inc [_, _, _, _] (pc := 98) dX5_leastSawdust_98 rfl rfl (by decide) rfl rfl ?_
        refine r_goto (tgt := 8) (pc := 101) dX5_leastSawdust_101 (by decide) ?_
        exact V.bk (ih1 (k + 1, t + (lgS S (cf k) - l), upd T (11 + cf k) (nI l), K) ⟨by dsimp only; omega, by dsimp only; omega, hfK, k39, hmK, hRT.put (by omega) (by omega), sdR_next hsd hk1 h16 hn6 hcf hinj hLl.2 hl (hdn.trans (dnN_t hab))⟩ (by dsimp only; omega)) rfl (by (repeat (first | exact wk_0 | refine wk_n ?_ | refine wk_s rfl ?_)); done)
      · have hno : sdN S cf (n - 1) = none := sdR_none hsd hk1 h16 (hdn.trans ((dnN_f (fun z => h92 (hia.mpr z))).trans (if_pos (by first | exact hl0 | exact absurd hl0 h92))))
        refine r_ldc (pc := 95) dX5_leastSawdust_95 lk_X5_219 ?_
        exact r_iret (pc := 97) dX5_leastSawdust_97 rfl ⟨by rw [hno]; rfl, hfK⟩
    · have hl0 : 0 < l := Nat.pos_of_ne_zero (fun z => h35 (by rw [z]; decide))
      refine r_aload_n (pc := 38) dX5_leastSawdust_38 rfl ?_
      refine gf_X5_29 (pc := 39) dX5_leastSawdust_39 rfl ?_
      refine r_aload_n (pc := 42) dX5_leastSawdust_42 rfl ?_
      refine gf_X5_36 (pc := 43) dX5_leastSawdust_43 rfl ?_
      refine r_iload_n (pc := 46) dX5_leastSawdust_46 rfl ?_
      refine r_iconst (v := nI 1) (pc := 47) dX5_leastSawdust_47 (by decide) ?_
      first | (with_reducible refine r_isubN (pc := 48) dX5_leastSawdust_48 ?hle ?_; case hle => omega) | refine r_isub (pc := 48) dX5_leastSawdust_48 ?_
      refine r_iald (pc := 49) dX5_leastSawdust_49 rfl (show _ < 6 by omega) ?_
      refine r_is (nI (cf (k - 1))) (by rw [k39]; exact htd _ (by omega)) ?_
      refine r_iload_n (pc := 50) dX5_leastSawdust_50 rfl ?_
      refine iv_X5_311 (c_X2_isHigher_28 _ _ _ (cf (k - 1)) (cf k) _ n hmK hRK hcp hck) (pc := 51) dX5_leastSawdust_51 rfl ⟨Nat.le_of_ble_eq_true rfl, Nat.le_of_ble_eq_true rfl⟩ (Nat.le_of_ble_eq_true rfl) hcs (kI ?_)
      refine r_ifne_b (tgt := 76) (pc := 54) dX5_leastSawdust_54 (by decide) (fun h54 => ?_) (fun h54 => ?_)
      · have hl0 := h54
        refine r_aload_n (pc := 76) dX5_leastSawdust_76 rfl ?_
        refine gf_X5_29 (pc := 77) dX5_leastSawdust_77 rfl ?_
        refine r_aload_n (pc := 80) dX5_leastSawdust_80 rfl ?_
        refine gf_X5_36 (pc := 81) dX5_leastSawdust_81 rfl ?_
        refine r_iload_n (pc := 84) dX5_leastSawdust_84 rfl ?_
        refine r_iconst (v := nI 1) (pc := 85) dX5_leastSawdust_85 (by decide) ?_
        first | (with_reducible refine r_isubN (pc := 86) dX5_leastSawdust_86 ?hle ?_; case hle => omega) | refine r_isub (pc := 86) dX5_leastSawdust_86 ?_
        refine r_iald (pc := 87) dX5_leastSawdust_87 rfl (show _ < 6 by omega) ?_
        refine r_is (nI (cf (k - 1))) (by rw [k39]; exact htd _ (by omega)) ?_
        refine r_iload_n (pc := 88) dX5_leastSawdust_88 rfl ?_
        refine iv_X5_311 (c_X2_isHigher_28 _ _ _ (cf (k - 1)) (cf k) _ n hmK hRK hcp hck) (pc := 89) dX5_leastSawdust_89 rfl ⟨Nat.le_of_ble_eq_true rfl, Nat.le_of_ble_eq_true rfl⟩ (Nat.le_of_ble_eq_true rfl) hcs (kI ?_)
        refine r_ifne_b (tgt := 98) (pc := 92) dX5_leastSawdust_92 (by decide) (fun h92 => ?_) (fun h92 => ?_)
        · have hab := hia.mp h92
          first | refine r_inc [_, _, _, _] (pc := 98) dX5_leastSawdust_98 rfl (nI_inc _) (by decide) rfl rfl ?_ | refine r_inc [_, _, _, _] (pc := 98) dX5_leastSawdust_98 rfl rfl (by decide) rfl rfl ?_
          refine r_goto (tgt := 8) (pc := 101) dX5_leastSawdust_101 (by decide) ?_
          exact V.bk (ih1 (k + 1, t + (lgS S (cf k) - l), upd T (11 + cf k) (nI l), K) ⟨by dsimp only; omega, by dsimp only; omega, hfK, k39, hmK, hRT.put (by omega) (by omega), sdR_next hsd hk1 h16 hn6 hcf hinj hLl.2 hl (hdn.trans (dnN_t hab))⟩ (by dsimp only; omega)) rfl (by (repeat (first | exact wk_0 | refine wk_n ?_ | refine wk_s rfl ?_)); done)
        · have hno : sdN S cf (n - 1) = none := sdR_none hsd hk1 h16 (hdn.trans ((dnN_f (fun z => h92 (hia.mpr z))).trans (if_pos (by first | exact hl0 | exact absurd hl0 h92))))
          refine r_ldc (pc := 95) dX5_leastSawdust_95 lk_X5_219 ?_
          exact r_iret (pc := 97) dX5_leastSawdust_97 rfl ⟨by rw [hno]; rfl, hfK⟩
      · refine r_aload_n (pc := 57) dX5_leastSawdust_57 rfl ?_
        refine gf_X5_29 (pc := 58) dX5_leastSawdust_58 rfl ?_
        refine gf_X5_171 (pc := 61) dX5_leastSawdust_61 rfl ?_
        refine r_iload_n (pc := 64) dX5_leastSawdust_64 rfl ?_
        refine r_dup2 (pc := 65) dX5_leastSawdust_65 rfl rfl ?_
        refine r_iald (pc := 66) dX5_leastSawdust_66 rfl (show _ < 6 by omega) ?_
        refine r_is (nI l) ((hmK.2.2.2.2.2 _ hck).2.1.trans pk_us) ?_
        refine r_iconst (v := nI 1) (pc := 67) dX5_leastSawdust_67 (by decide) ?_
        first | (with_reducible refine r_isubN (pc := 68) dX5_leastSawdust_68 ?hle ?_; case hle => omega) | refine r_isub (pc := 68) dX5_leastSawdust_68 ?_
        refine r_iast (pc := 69) dX5_leastSawdust_69 rfl (show _ < 6 by omega) ?_
        first | refine r_inc [_, _, _, _] (pc := 70) dX5_leastSawdust_70 rfl (nI_inc _) (by decide) rfl rfl ?_ | refine r_inc [_, _, _, _] (pc := 70) dX5_leastSawdust_70 rfl rfl (by decide) rfl rfl ?_
        refine r_goto (tgt := 26) (pc := 73) dX5_leastSawdust_73 (by decide) ?_
        refine V.bk (ih2 (l - 1, mset K 30 (cf k) (nI (l - 1))) ⟨by dsimp only; omega, hfK.put 30 _ _ (by omega) (by omega), k39, by have z := hmK.put (j := 2) (p := 11) (k := cf k) (by omega) (by omega) hn6 (nI (l - 1)); rw [fa_upd_twice] at z; exact z, hdn.trans ((dnN_f (fun z => h54 (hia.mpr z))).trans (if_neg (by omega)))⟩ (by dsimp only; omega)) rfl ?_
        dsimp only
        rw [show t + (lgS S (cf k) - (l - 1)) = t + (lgS S (cf k) - l) + 1 by omega]
        repeat (first | exact wk_0 | refine wk_n ?_ | refine wk_s rfl ?_)
set_option maxHeartbeats 4000000 in
set_option maxRecDepth 100000 in
theorem c_X5_fewestCushions (l : Launch) (G : Gx) (M : Mem) (S : Nat → Int32) (n : Nat) (hm : ms 18 n S M) (hR : Rg n S) (hn1 : 0 < n) (cf : Nat → Nat) (htd : ∀ k, k < n → M 39 k = nI (cf k)) (hcf : ∀ k, k < n → cf k < n) (hinj : ∀ i j, i < j → j < n → cf i ≠ cf j) : Con l G yX5_fewestCushions cX5_fewestCushions 4 (some .int) 3 101 [.ref (gA G 14)] M (qI (ansO (puN S cf n (n - 1))) (fpc M)) := by
  refine Con.ofV [some (.ref (gA G 14)), none, none, none] RX5 (by decide) rfl (Nat.le_of_ble_eq_true rfl) rfl ?_
  intro κ hl hG hk0 hn0
  subst hl hG
  have hcs : κ.k ≤ 0 ∧ κ.n ≤ 0 := ⟨Nat.le_of_eq hk0, Nat.le_of_eq hn0⟩
  have hn := hm.1
  have hn6 := hR.1
  refine r_aload_n (pc := 0) dX5_fewestCushions_0 rfl ?_
  refine iv_X5_213 (e_X5_foresee _ _ _ S n hm hR) (pc := 1) dX5_fewestCushions_1 rfl ⟨Nat.le_of_ble_eq_true rfl, Nat.le_of_ble_eq_true rfl⟩ (Nat.le_of_ble_eq_true rfl) hcs (kqV (fun N1 r1 => ?_))
  refine r_iconst (v := nI 0) (pc := 4) dX5_fewestCushions_4 (by decide) ?_
  refine r_st_n [_, _, _, _] (pc := 5) dX5_fewestCushions_5 (by decide) rfl rfl ?_
  refine r_aload_n (pc := 6) dX5_fewestCushions_6 rfl ?_
  refine gf_X5_25 (pc := 7) dX5_fewestCushions_7 rfl ?_
  refine gf_X5_140 (pc := 10) dX5_fewestCushions_10 rfl ?_
  refine r_is (nI n) (by first | exact hn | exact (r1.1.ms hm).1) ?_
  refine r_iconst (v := nI 2) (pc := 13) dX5_fewestCushions_13 (by decide) ?_
  refine r_isub (pc := 14) dX5_fewestCushions_14 ?_
  refine r_is (nI (n - 1) - nI 1) (sub21 n hn6 hn1) ?_
  refine r_st_n [_, _, _, _] (pc := 15) dX5_fewestCushions_15 (by decide) rfl rfl ?_
  refine V.bk (loopV (fun (σ : Nat × Nat × (Nat → Int32) × Mem) => V κ cX5_fewestCushions RX5 4 (some .int) (rmx 3 101) (QM κ (qI (ansO (puN S cf n (n - 1))) (fpc M))) (σ.2.2.2) 16 [some (.ref (gA κ.G 14)), some (.int (nI (σ.2.1))), some (.int (nI (σ.1) - nI 1)), none] []) (fun (σ : Nat × Nat × (Nat → Int32) × Mem) => (σ.1) < n ∧ fpc M (σ.2.2.2) ∧ (σ.2.2.2) 39 = M 39 ∧ ms 28 n (σ.2.2.1) (σ.2.2.2) ∧ Rg n (σ.2.2.1) ∧ puR S cf n (σ.1) (σ.2.1) (σ.2.2.1)) (fun (σ : Nat × Nat × (Nat → Int32) × Mem) => (σ.1)) ?_ (n - 1, 0, S, N1) ⟨by dsimp only; omega, r1.1, r1.2.2, r1.2.1, hR, Nat.zero_le _, fun _ _ => ⟨rfl, rfl⟩, fun _ _ => rfl, by rw [Nat.sub_self]; rfl⟩) rfl (by (repeat (first | exact wk_0 | refine wk_n ?_ | refine wk_s rfl ?_)); done)
  rintro ⟨m, t, T, N⟩ hI0 ih1
  dsimp only at hI0 ih1
  obtain ⟨hmn, hf, h39, hmT, hRT, hpu⟩ := hI0
  show V κ cX5_fewestCushions RX5 4 (some .int) (rmx 3 101) (QM κ (qI (ansO (puN S cf n (n - 1))) (fpc M))) N 16 [some (.ref (gA κ.G 14)), some (.int (nI t)), some (.int (nI m - nI 1)), none] []
  refine r_iload_n (pc := 16) dX5_fewestCushions_16 rfl ?_
  refine r_if_lt (tgt := 107) (pc := 17) dX5_fewestCushions_17 (by decide) (fun h17 => ?_) (fun h17 => ?_)
  · have hm00 : m = 0 := (subm m (by omega)).mp h17
    subst hm00
    refine r_iload_n (pc := 107) dX5_fewestCushions_107 rfl ?_
    exact r_iret (pc := 108) dX5_fewestCushions_108 rfl ⟨by have := hpu.2.2.2; rw [Nat.sub_zero] at this; rw [this]; rfl, hf⟩
  · obtain ⟨m, rfl⟩ : ∃ m2, m = m2 + 1 := ⟨m - 1, by have : m ≠ 0 := fun z => h17 ((subm m (by omega)).mpr z); omega⟩
    refine V.bk (f' := [some (.ref (gA κ.G 14)), some (.int (nI t)), some (.int (nI m)), none]) ?_ rfl (by rw [pk_sub (by omega), Nat.add_sub_cancel]; (repeat (first | exact wk_0 | refine wk_n ?_ | refine wk_s rfl ?_)); done)
    have hck := hcf m (by omega)
    have hcp := hcf (m + 1) hmn
    have hne : cf (m + 1) ≠ cf m := Ne.symm (hinj m (m + 1) (by omega) hmn)
    have hLl := (hR.c hck).sf
    have hm0 : ms 28 n (upd T (29 + cf m) (nI (sfS S (cf m)))) N := by rw [fa_upd_same ((hpu.2.2.1 m (by omega)).trans hLl.1)]; exact hmT
    refine r_aload_n (pc := 20) dX5_fewestCushions_20 rfl ?_
    refine gf_X5_36 (pc := 21) dX5_fewestCushions_21 rfl ?_
    refine r_iload_n (pc := 24) dX5_fewestCushions_24 rfl ?_
    refine r_iald (pc := 25) dX5_fewestCushions_25 rfl (show _ < 6 by omega) ?_
    refine r_is (nI (cf m)) (by rw [h39]; exact htd m (by omega)) ?_
    refine r_st_n [_, _, _, _] (pc := 26) dX5_fewestCushions_26 (by decide) rfl rfl ?_
    refine V.bk (loopV (fun (σ : Nat × Mem) => V κ cX5_fewestCushions RX5 4 (some .int) (rmx 3 101) (QM κ (qI (ansO (puN S cf n (n - 1))) (fpc M))) (σ.2) 27 [some (.ref (gA κ.G 14)), some (.int (nI (t + ((σ.1) - sfS S (cf m))))), some (.int (nI m)), some (.int (nI (cf m)))] []) (fun (σ : Nat × Mem) => sfS S (cf m) ≤ (σ.1) ∧ (σ.1) ≤ 20 ∧ fpc M (σ.2) ∧ (σ.2) 39 = M 39 ∧ ms 28 n (upd T (29 + cf m) (nI (σ.1))) (σ.2) ∧ upN (upP S (highS T (cf (m + 1))) (cf (m + 1)) (cf m)) (21 - sfS S (cf m)) = upN (upP S (highS T (cf (m + 1))) (cf (m + 1)) (cf m)) (21 - (σ.1))) (fun (σ : Nat × Mem) => 20 - (σ.1)) ?_ (sfS S (cf m), N) ⟨Nat.le_refl _, hLl.2, hf, h39, hm0, rfl⟩) rfl (by rw [Nat.sub_self, Nat.add_zero]; (repeat (first | exact wk_0 | refine wk_n ?_ | refine wk_s rfl ?_)); done)
    rintro ⟨l, K⟩ hI0 ih2
    dsimp only at hI0 ih2
    obtain ⟨hl0, hl, hfK, k39, hmK, hdn⟩ := hI0
    show V κ cX5_fewestCushions RX5 4 (some .int) (rmx 3 101) (QM κ (qI (ansO (puN S cf n (n - 1))) (fpc M))) K 27 [some (.ref (gA κ.G 14)), some (.int (nI (t + (l - sfS S (cf m))))), some (.int (nI m)), some (.int (nI (cf m)))] []
    have hRK := hRT.put (p := 29) (k := cf m) (v := l) (by omega) (by omega)
    have hia := (abv_isAb (S := upd T (29 + cf m) (nI l)) hck hcp hn6)
    rw [high_upd29 hne (by omega) (by omega), high_own29 (by omega), (hpu.2.1 _ hck).1, (hpu.2.1 _ hck).2] at hia
    have hup : upP S (highS T (cf (m + 1))) (cf (m + 1)) (cf m) l = true ↔ abv (upd T (29 + cf m) (nI l)) (cf m) (cf (m + 1)) = true := by rw [hia]; exact decide_eq_true_iff
    refine r_aload_n (pc := 27) dX5_fewestCushions_27 rfl ?_
    refine gf_X5_29 (pc := 28) dX5_fewestCushions_28 rfl ?_
    refine gf_X5_168 (pc := 31) dX5_fewestCushions_31 rfl ?_
    refine r_iload_n (pc := 34) dX5_fewestCushions_34 rfl ?_
    refine r_iald (pc := 35) dX5_fewestCushions_35 rfl (show _ < 6 by omega) ?_
    refine r_is (nI l) ((hmK.2.2.2.2.2 _ hck).2.2.1.trans pk_us) ?_
    refine r_bipush (v := nI 20) (pc := 36) dX5_fewestCushions_36 (by decide) ?_
    refine r_icmp_ge (tgt := 79) (pc := 38) dX5_fewestCushions_38 (by decide) (fun h38 => ?_) (fun h38 => ?_)
    · have hl20 : l = 20 := by have := (nI_leI (by omega) (by omega)).mp h38; omega
      refine r_aload_n (pc := 79) dX5_fewestCushions_79 rfl ?_
      refine gf_X5_29 (pc := 80) dX5_fewestCushions_80 rfl ?_
      refine r_iload_n (pc := 83) dX5_fewestCushions_83 rfl ?_
      refine r_aload_n (pc := 84) dX5_fewestCushions_84 rfl ?_
      refine gf_X5_36 (pc := 85) dX5_fewestCushions_85 rfl ?_
      refine r_iload_n (pc := 88) dX5_fewestCushions_88 rfl ?_
      refine r_iconst (v := nI 1) (pc := 89) dX5_fewestCushions_89 (by decide) ?_
      first | with_reducible refine r_iaddN (pc := 90) dX5_fewestCushions_90 ?_ | refine r_iadd (pc := 90) dX5_fewestCushions_90 ?_
      refine r_iald (pc := 91) dX5_fewestCushions_91 rfl (show _ < 6 by omega) ?_
      refine r_is (nI (cf (m + 1))) (by rw [k39]; exact htd _ hmn) ?_
      refine iv_X5_311 (c_X2_isHigher_28 _ _ _ (cf m) (cf (m + 1)) _ n hmK hRK hck hcp) (pc := 92) dX5_fewestCushions_92 rfl ⟨Nat.le_of_ble_eq_true rfl, Nat.le_of_ble_eq_true rfl⟩ (Nat.le_of_ble_eq_true rfl) hcs (kI ?_)
      refine r_ifne_b (tgt := 101) (pc := 95) dX5_fewestCushions_95 (by decide) (fun h95 => ?_) (fun h95 => ?_)
      · have hab := hup.mpr h95
        refine r_inc [_, _, _, _] (pc := 101) dX5_fewestCushions_101 rfl (decm m (by omega)) (by decide) rfl rfl ?_
        refine r_goto (tgt := 16) (pc := 104) dX5_fewestCushions_104 (by decide) ?_
        exact V.bk (ih1 (m, t + (l - sfS S (cf m)), upd T (29 + cf m) (nI l), K) ⟨by dsimp only; omega, hfK, k39, hmK, hRT.put (by omega) (by omega), puR_next hpu hmn hn6 hcf hinj hl0 hl (hdn.trans (upN_t hl hab))⟩ (by dsimp only; omega)) rfl (by (repeat (first | exact wk_0 | refine wk_n ?_ | refine wk_s rfl ?_)); done)
      · have hno : puN S cf n (n - 1) = none := puR_none hpu hmn (hdn.trans ((upN_f hl (fun z => h95 (hup.mp z))).trans (by rw [show 21 - (l + 1) = 0 by first | omega | exact absurd hl20 h95]; rfl)))
        refine r_ldc (pc := 98) dX5_fewestCushions_98 lk_X5_219 ?_
        exact r_iret (pc := 100) dX5_fewestCushions_100 rfl ⟨by rw [hno]; rfl, hfK⟩
    · have hl20 : l < 20 := Nat.not_le.mp (fun z => h38 (nI_le z (by omega)))
      refine r_aload_n (pc := 41) dX5_fewestCushions_41 rfl ?_
      refine gf_X5_29 (pc := 42) dX5_fewestCushions_42 rfl ?_
      refine r_iload_n (pc := 45) dX5_fewestCushions_45 rfl ?_
      refine r_aload_n (pc := 46) dX5_fewestCushions_46 rfl ?_
      refine gf_X5_36 (pc := 47) dX5_fewestCushions_47 rfl ?_
      refine r_iload_n (pc := 50) dX5_fewestCushions_50 rfl ?_
      refine r_iconst (v := nI 1) (pc := 51) dX5_fewestCushions_51 (by decide) ?_
      first | with_reducible refine r_iaddN (pc := 52) dX5_fewestCushions_52 ?_ | refine r_iadd (pc := 52) dX5_fewestCushions_52 ?_
      refine r_iald (pc := 53) dX5_fewestCushions_53 rfl (show _ < 6 by omega) ?_
      refine r_is (nI (cf (m + 1))) (by rw [k39]; exact htd _ hmn) ?_
      refine iv_X5_311 (c_X2_isHigher_28 _ _ _ (cf m) (cf (m + 1)) _ n hmK hRK hck hcp) (pc := 54) dX5_fewestCushions_54 rfl ⟨Nat.le_of_ble_eq_true rfl, Nat.le_of_ble_eq_true rfl⟩ (Nat.le_of_ble_eq_true rfl) hcs (kI ?_)
      refine r_ifne_b (tgt := 79) (pc := 57) dX5_fewestCushions_57 (by decide) (fun h57 => ?_) (fun h57 => ?_)
      · have hl20 := h57
        refine r_aload_n (pc := 79) dX5_fewestCushions_79 rfl ?_
        refine gf_X5_29 (pc := 80) dX5_fewestCushions_80 rfl ?_
        refine r_iload_n (pc := 83) dX5_fewestCushions_83 rfl ?_
        refine r_aload_n (pc := 84) dX5_fewestCushions_84 rfl ?_
        refine gf_X5_36 (pc := 85) dX5_fewestCushions_85 rfl ?_
        refine r_iload_n (pc := 88) dX5_fewestCushions_88 rfl ?_
        refine r_iconst (v := nI 1) (pc := 89) dX5_fewestCushions_89 (by decide) ?_
        first | with_reducible refine r_iaddN (pc := 90) dX5_fewestCushions_90 ?_ | refine r_iadd (pc := 90) dX5_fewestCushions_90 ?_
        refine r_iald (pc := 91) dX5_fewestCushions_91 rfl (show _ < 6 by omega) ?_
        refine r_is (nI (cf (m + 1))) (by rw [k39]; exact htd _ hmn) ?_
        refine iv_X5_311 (c_X2_isHigher_28 _ _ _ (cf m) (cf (m + 1)) _ n hmK hRK hck hcp) (pc := 92) dX5_fewestCushions_92 rfl ⟨Nat.le_of_ble_eq_true rfl, Nat.le_of_ble_eq_true rfl⟩ (Nat.le_of_ble_eq_true rfl) hcs (kI ?_)
        refine r_ifne_b (tgt := 101) (pc := 95) dX5_fewestCushions_95 (by decide) (fun h95 => ?_) (fun h95 => ?_)
        · have hab := hup.mpr h95
          refine r_inc [_, _, _, _] (pc := 101) dX5_fewestCushions_101 rfl (decm m (by omega)) (by decide) rfl rfl ?_
          refine r_goto (tgt := 16) (pc := 104) dX5_fewestCushions_104 (by decide) ?_
          exact V.bk (ih1 (m, t + (l - sfS S (cf m)), upd T (29 + cf m) (nI l), K) ⟨by dsimp only; omega, hfK, k39, hmK, hRT.put (by omega) (by omega), puR_next hpu hmn hn6 hcf hinj hl0 hl (hdn.trans (upN_t hl hab))⟩ (by dsimp only; omega)) rfl (by (repeat (first | exact wk_0 | refine wk_n ?_ | refine wk_s rfl ?_)); done)
        · have hno : puN S cf n (n - 1) = none := puR_none hpu hmn (hdn.trans ((upN_f hl (fun z => h95 (hup.mp z))).trans (by rw [show 21 - (l + 1) = 0 by first | omega | exact absurd hl20 h95]; rfl)))
          refine r_ldc (pc := 98) dX5_fewestCushions_98 lk_X5_219 ?_
          exact r_iret (pc := 100) dX5_fewestCushions_100 rfl ⟨by rw [hno]; rfl, hfK⟩
      · refine r_aload_n (pc := 60) dX5_fewestCushions_60 rfl ?_
        refine gf_X5_29 (pc := 61) dX5_fewestCushions_61 rfl ?_
        refine gf_X5_168 (pc := 64) dX5_fewestCushions_64 rfl ?_
        refine r_iload_n (pc := 67) dX5_fewestCushions_67 rfl ?_
        refine r_dup2 (pc := 68) dX5_fewestCushions_68 rfl rfl ?_
        refine r_iald (pc := 69) dX5_fewestCushions_69 rfl (show _ < 6 by omega) ?_
        refine r_is (nI l) ((hmK.2.2.2.2.2 _ hck).2.2.1.trans pk_us) ?_
        refine r_iconst (v := nI 1) (pc := 70) dX5_fewestCushions_70 (by decide) ?_
        first | with_reducible refine r_iaddN (pc := 71) dX5_fewestCushions_71 ?_ | refine r_iadd (pc := 71) dX5_fewestCushions_71 ?_
        refine r_iast (pc := 72) dX5_fewestCushions_72 rfl (show _ < 6 by omega) ?_
        first | refine r_inc [_, _, _, _] (pc := 73) dX5_fewestCushions_73 rfl (nI_inc _) (by decide) rfl rfl ?_ | refine r_inc [_, _, _, _] (pc := 73) dX5_fewestCushions_73 rfl rfl (by decide) rfl rfl ?_
        refine r_goto (tgt := 27) (pc := 76) dX5_fewestCushions_76 (by decide) ?_
        refine V.bk (ih2 (l + 1, mset K 31 (cf m) (nI (l + 1))) ⟨by dsimp only; omega, by dsimp only; omega, hfK.put 31 _ _ (by omega) (by omega), k39, by have z := hmK.put (j := 3) (p := 29) (k := cf m) (by omega) (by omega) hn6 (nI (l + 1)); rw [fa_upd_twice] at z; exact z, hdn.trans (upN_f hl (fun z => h57 (hup.mp z)))⟩ (by dsimp only; omega)) rfl ?_
        dsimp only
        rw [show t + (l + 1 - sfS S (cf m)) = t + (l - sfS S (cf m)) + 1 by omega]
        repeat (first | exact wk_0 | refine wk_n ?_ | refine wk_s rfl ?_)
def qF (F : Int32 → Mem → Prop) : Option Value → Mem → Prop := fun v M' => ∃ u, v = some (.int u) ∧ F u M'
theorem kqF {κ : Kx} {cc : ByteArray} {own : String} {nL : Nat} {ret : Option FieldType} {R : Room} {Q : State → Prop} {pc : Nat} {f : List (Option Value)} {st : List Value} {F : Int32 → Mem → Prop} (k : ∀ u N, F u N → V κ cc own nL ret R Q N pc f (.int u :: st)) : ∀ v M', qF F v M' → V κ cc own nL ret R Q M' pc f (v.toList ++ st) := by
  rintro _ _ ⟨u, rfl, h⟩
  exact k u _ h

/-- what keeps sawdust and pile from an order, or the order -/
def roR (M : Mem) (n : Nat) (x i : Int32) (u : Int32) (N : Mem) : Prop := (n = 0 ∧ u = cState ∧ N = M) ∨ (0 < n ∧ ¬ rgG 0 7 x ∧ u = cBad ∧ N = M) ∨ (0 < n ∧ ∃ r, r ≤ 7 ∧ x = nI r ∧ ((∃ c, 1 ≤ c ∧ c ≤ 3 ∧ ((c ≤ 2 ∧ LC (M 2 r) i n c) ∨ (c = 3 ∧ LC (M 2 r) i n 0 ∧ ∃ p, i = nI p ∧ p + n ≤ 40 ∧ ¬ okN (fun j => M 3 (40 * r + p + j)) n n)) ∧ u = fnV c ∧ fpc (mset M 14 11 (nI c)) N) ∨ (∃ p, i = nI p ∧ p + n ≤ 40 ∧ LC (M 2 r) i n 0 ∧ okN (fun j => M 3 (40 * r + p + j)) n n ∧ u = 0 ∧ fpc M N ∧ ∀ k, k < n → N 39 k = M 3 (40 * r + p + k))))
theorem fnV_nz : ∀ c : Nat, c ≤ 3 → 1 ≤ c → ¬ fnV c = 0 := by decide
theorem roR_0 {M N : Mem} {n : Nat} {x i u : Int32} (h : roR M n x i u N) (hu : u = 0) : 0 < n ∧ ∃ r, r ≤ 7 ∧ x = nI r ∧ ∃ p, i = nI p ∧ p + n ≤ 40 ∧ LC (M 2 r) i n 0 ∧ okN (fun j => M 3 (40 * r + p + j)) n n ∧ fpc M N ∧ ∀ k, k < n → N 39 k = M 3 (40 * r + p + k) := by
  subst hu
  rcases h with ⟨-, z, -⟩ | ⟨-, -, z, -⟩ | ⟨h0, r, hr, hx, ⟨c, h1, h3, -, z, -⟩ | ⟨p, hi, hp, hL, hok, -, hf, ht⟩⟩
  · exact absurd z (by decide)
  · exact absurd z (by decide)
  · exact absurd z.symm (fnV_nz c h3 h1)
  · exact ⟨h0, r, hr, hx, p, hi, hp, hL, hok, hf, ht⟩
theorem roR_1 {M N : Mem} {n : Nat} {x i u : Int32} (h : roR M n x i u N) (hu : ¬ u = 0) {P : Nat → Nat → Prop} : (n = 0 ∧ rI cState M (some (.int u)) N) ∨ (0 < n ∧ ¬ rgG 0 7 x ∧ rI cBad M (some (.int u)) N) ∨ (0 < n ∧ ∃ r, r ≤ 7 ∧ x = nI r ∧ ((∃ c, 1 ≤ c ∧ c ≤ 3 ∧ ((c ≤ 2 ∧ LC (M 2 r) i n c) ∨ (c = 3 ∧ LC (M 2 r) i n 0 ∧ ∃ p, i = nI p ∧ p + n ≤ 40 ∧ ¬ okN (fun j => M 3 (40 * r + p + j)) n n)) ∧ qI (fnV c) (fpc (mset M 14 11 (nI c))) (some (.int u)) N) ∨ (∃ p, i = nI p ∧ p + n ≤ 40 ∧ LC (M 2 r) i n 0 ∧ okN (fun j => M 3 (40 * r + p + j)) n n ∧ P r p))) := by
  rcases h with ⟨h0, rfl, rfl⟩ | ⟨h0, g, rfl, rfl⟩ | ⟨h0, r, hr, hx, ⟨c, h1, h3, hc, rfl, hf⟩ | ⟨p, hi, hp, hL, hok, z, hf, ht⟩⟩
  · exact Or.inl ⟨h0, rfl, rfl⟩
  · exact Or.inr (Or.inl ⟨h0, g, rfl, rfl⟩)
  · exact Or.inr (Or.inr ⟨h0, r, hr, hx, Or.inl ⟨c, h1, h3, hc, rfl, hf⟩⟩)
  · exact absurd z hu
set_option maxHeartbeats 4000000 in
set_option maxRecDepth 100000 in
theorem c_X5_refusalOfOrder (l : Launch) (G : Gx) (M : Mem) (x i : Int32) (S : Nat → Int32) (n : Nat) (hm : ms 18 n S M) (hR : Rg n S) (hW : rwR M) : Con l G yX5_refusalOfOrder cX5_refusalOfOrder 4 (some .int) 3 71 [.ref (gA G 14), .int x, .int i] M (qF (roR M n x i)) := by
  refine Con.ofV [some (.ref (gA G 14)), some (.int x), some (.int i), none] RX5 (by decide) rfl (Nat.le_of_ble_eq_true rfl) rfl ?_
  intro κ hl hG hk0 hn0
  subst hl hG
  have hcs : κ.k ≤ 0 ∧ κ.n ≤ 0 := ⟨Nat.le_of_eq hk0, Nat.le_of_eq hn0⟩
  generalize hPP : (qF (roR M n x i)) = PP
  have hn := hm.1
  have hn6 := hR.1
  refine r_aload_n (pc := 0) dX5_refusalOfOrder_0 rfl ?_
  refine iv_X5_149 (c_X5_isEmpty _ _ _ n (by first | assumption | exact hm.1) hn6) (pc := 1) dX5_refusalOfOrder_1 rfl ⟨Nat.le_of_ble_eq_true rfl, Nat.le_of_ble_eq_true rfl⟩ (Nat.le_of_ble_eq_true rfl) hcs (kI ?_)
  refine r_ifeq_b (tgt := 10) (pc := 4) dX5_refusalOfOrder_4 (by decide) (fun h4 => ?_) (fun h4 => ?_)
  · have hn1 : 0 < n := Nat.pos_of_ne_zero h4
    refine r_iload_n (pc := 10) dX5_refusalOfOrder_10 rfl ?_
    refine iv_X5_59 (c_X5_isRow _ _ _ _) (pc := 11) dX5_refusalOfOrder_11 ⟨Nat.le_of_ble_eq_true rfl, Nat.le_of_ble_eq_true rfl⟩ (Nat.le_of_ble_eq_true rfl) hcs (kI ?_)
    refine r_ifne_b (tgt := 20) (pc := 14) dX5_refusalOfOrder_14 (by decide) (fun h14 => ?_) (fun h14 => ?_)
    · obtain ⟨r, -, hr, rfl⟩ := rg_mp (a := 0) (b := 7) h14 (by omega) (by omega)
      refine r_aload_n (pc := 20) dX5_refusalOfOrder_20 rfl ?_
      refine r_iload_n (pc := 21) dX5_refusalOfOrder_21 rfl ?_
      refine r_iload_n (pc := 22) dX5_refusalOfOrder_22 rfl ?_
      refine iv_X5_305 (c_X5_findingOfOrder _ _ _ r hr i S n hm hR hW) (pc := 23) dX5_refusalOfOrder_23 rfl ⟨Nat.le_of_ble_eq_true rfl, Nat.le_of_ble_eq_true rfl⟩ (Nat.le_of_ble_eq_true rfl) hcs (kqE (fun c23 N23 r23 => ?_))
      obtain ⟨hc3, hf, hfo⟩ := r23
      refine r_st_n [_, _, _, _] (pc := 26) dX5_refusalOfOrder_26 (by decide) rfl rfl ?_
      refine r_iload_n (pc := 27) dX5_refusalOfOrder_27 rfl ?_
      refine r_if_eq (tgt := 39) (pc := 28) dX5_refusalOfOrder_28 (by decide) (fun h28 => ?_) (fun h28 => ?_)
      · have hc0 : c23 = 0 := (nI_eq (by omega) (by omega)).mp (h28.trans nI_0.symm)
        subst hc0
        obtain ⟨-, hLC, p, rfl, hp40, hok, htd⟩ := (hfo.resolve_left (fun z => by omega)).resolve_left (fun z => absurd z.1 (by decide))
        refine r_iconst (v := nI 0) (pc := 39) dX5_refusalOfOrder_39 (by decide) ?_
        exact r_iret (pc := 40) dX5_refusalOfOrder_40 rfl (by subst hPP; exact (by first | exact ⟨_, rfl, Or.inr (Or.inr ⟨hn1, r, hr, rfl, Or.inr ⟨p, rfl, hp40, hLC, hok, rfl, hf, htd⟩⟩)⟩ | exact ⟨_, rfl, Or.inr (Or.inr ⟨hn1, r, hr, rfl, Or.inl ⟨c23, by omega, hc3, by rcases hfo with z | z | z; exact Or.inl ⟨by omega, z.2⟩; exact Or.inr z; exact absurd z.1 hc0, rfl, fun q hq => by by_cases z : q = 14; subst z; rw [mset_eq, mset_eq, hf 14 (by omega)]; rw [mset_ne _ _ _ z, mset_ne _ _ _ z]; exact hf q hq⟩⟩)⟩))
      · have hc0 : c23 ≠ 0 := fun z => h28 (by rw [z]; rfl)
        refine r_aload_n (pc := 31) dX5_refusalOfOrder_31 rfl ?_
        refine r_iload_n (pc := 32) dX5_refusalOfOrder_32 rfl ?_
        refine iv_X5_68 (c_X5_found _ _ _ _) (pc := 33) dX5_refusalOfOrder_33 rfl ⟨Nat.le_of_ble_eq_true rfl, Nat.le_of_ble_eq_true rfl⟩ (Nat.le_of_ble_eq_true rfl) hcs (kI ?_)
        refine r_goto (tgt := 40) (pc := 36) dX5_refusalOfOrder_36 (by decide) ?_
        exact r_iret (pc := 40) dX5_refusalOfOrder_40 rfl (by subst hPP; exact (by first | exact ⟨_, rfl, Or.inr (Or.inr ⟨hn1, r, hr, rfl, Or.inr ⟨p, rfl, hp40, hLC, hok, rfl, hf, htd⟩⟩)⟩ | exact ⟨_, rfl, Or.inr (Or.inr ⟨hn1, r, hr, rfl, Or.inl ⟨c23, by omega, hc3, by rcases hfo with z | z | z; exact Or.inl ⟨by omega, z.2⟩; exact Or.inr z; exact absurd z.1 hc0, rfl, fun q hq => by by_cases z : q = 14; subst z; rw [mset_eq, mset_eq, hf 14 (by omega)]; rw [mset_ne _ _ _ z, mset_ne _ _ _ z]; exact hf q hq⟩⟩)⟩))
    · have g14 : ¬ rgG 0 7 x := fun z => h14 (rg_mpr z (by omega))
      refine r_ldc (pc := 17) dX5_refusalOfOrder_17 lk_X5_67 ?_
      exact r_iret (pc := 19) dX5_refusalOfOrder_19 rfl (by subst hPP; exact ⟨_, rfl, Or.inr (Or.inl ⟨hn1, g14, rfl, rfl⟩)⟩)
  · have g4 : n = 0 := h4
    refine r_ldc (pc := 7) dX5_refusalOfOrder_7 lk_X5_148 ?_
    exact r_iret (pc := 9) dX5_refusalOfOrder_9 rfl (by subst hPP; exact ⟨_, rfl, Or.inl ⟨g4, rfl, rfl⟩⟩)
set_option maxHeartbeats 4000000 in
set_option maxRecDepth 100000 in
theorem c_X5_sawdust (l : Launch) (G : Gx) (M : Mem) (x i : Int32) (S : Nat → Int32) (n : Nat) (hm : ms 18 n S M) (hR : Rg n S) (hW : rwR M) : Con l G yX5_sawdust cX5_sawdust 4 (some .int) 4 124 [.ref (gA G 14), .int x, .int i] M (fun (v : Option Value) (M' : Mem) => (n = 0 ∧ rI cState M v M') ∨ (0 < n ∧ ¬ rgG 0 7 x ∧ rI cBad M v M') ∨ (0 < n ∧ ∃ r, r ≤ 7 ∧ x = nI r ∧ ((∃ c, 1 ≤ c ∧ c ≤ 3 ∧ ((c ≤ 2 ∧ LC (M 2 r) i n c) ∨ (c = 3 ∧ LC (M 2 r) i n 0 ∧ ∃ p, i = nI p ∧ p + n ≤ 40 ∧ ¬ okN (fun j => M 3 (40 * r + p + j)) n n)) ∧ qI (fnV c) (fpc (mset M 14 11 (nI c))) v M') ∨ (∃ p, i = nI p ∧ p + n ≤ 40 ∧ LC (M 2 r) i n 0 ∧ okN (fun j => M 3 (40 * r + p + j)) n n ∧ qI (ansO (sdN S (cI (fun j => M 3 (40 * r + p + j))) (n - 1))) (fpc (mset M 14 11 (nI 0))) v M')))) := by
  refine Con.ofV [some (.ref (gA G 14)), some (.int x), some (.int i), none] RX5 (by decide) rfl (Nat.le_of_ble_eq_true rfl) rfl ?_
  intro κ hl hG hk0 hn0
  subst hl hG
  have hcs : κ.k ≤ 0 ∧ κ.n ≤ 0 := ⟨Nat.le_of_eq hk0, Nat.le_of_eq hn0⟩
  generalize hPP : (fun (v : Option Value) (M' : Mem) => (n = 0 ∧ rI cState M v M') ∨ (0 < n ∧ ¬ rgG 0 7 x ∧ rI cBad M v M') ∨ (0 < n ∧ ∃ r, r ≤ 7 ∧ x = nI r ∧ ((∃ c, 1 ≤ c ∧ c ≤ 3 ∧ ((c ≤ 2 ∧ LC (M 2 r) i n c) ∨ (c = 3 ∧ LC (M 2 r) i n 0 ∧ ∃ p, i = nI p ∧ p + n ≤ 40 ∧ ¬ okN (fun j => M 3 (40 * r + p + j)) n n)) ∧ qI (fnV c) (fpc (mset M 14 11 (nI c))) v M') ∨ (∃ p, i = nI p ∧ p + n ≤ 40 ∧ LC (M 2 r) i n 0 ∧ okN (fun j => M 3 (40 * r + p + j)) n n ∧ qI (ansO (sdN S (cI (fun j => M 3 (40 * r + p + j))) (n - 1))) (fpc (mset M 14 11 (nI 0))) v M')))) = PP
  have hn := hm.1
  have hn6 := hR.1
  refine r_aload_n (pc := 0) dX5_sawdust_0 rfl ?_
  refine r_iload_n (pc := 1) dX5_sawdust_1 rfl ?_
  refine r_iload_n (pc := 2) dX5_sawdust_2 rfl ?_
  refine iv_X5_229 (c_X5_refusalOfOrder _ _ _ x i S n hm hR hW) (pc := 3) dX5_sawdust_3 rfl ⟨Nat.le_of_ble_eq_true rfl, Nat.le_of_ble_eq_true rfl⟩ (Nat.le_of_ble_eq_true rfl) hcs (kqF (fun u3 N3 r3 => ?_))
  refine r_st_n [_, _, _, _] (pc := 6) dX5_sawdust_6 (by decide) rfl rfl ?_
  refine r_iload_n (pc := 7) dX5_sawdust_7 rfl ?_
  refine r_if_eq (tgt := 15) (pc := 8) dX5_sawdust_8 (by decide) (fun h8 => ?_) (fun h8 => ?_)
  · obtain ⟨hn1, r, hr, rfl, p, rfl, hp40, hLC, hok, hf, htd⟩ := roR_0 r3 h8
    have hcj : ∀ k, k < n → M 3 (40 * r + p + k) = nI (cI (fun j => M 3 (40 * r + p + j)) k) ∧ cI (fun j => M 3 (40 * r + p + j)) k < n := fun k hk => okN_c (I := fun j => M 3 (40 * r + p + j)) hok hk hn6
    refine r_aload_n (pc := 15) dX5_sawdust_15 rfl ?_
    refine r_aload_n (pc := 16) dX5_sawdust_16 rfl ?_
    refine iv_X5_232 (c_X5_leastSawdust _ _ _ S n (hf.ms hm) hR hn1 (cI (fun j => M 3 (40 * r + p + j))) (fun k hk => (htd k hk).trans (hcj k hk).1) (fun k hk => (hcj k hk).2) (fun i j hij hj => okN_inj hn6 hok hij hj)) (pc := 17) dX5_sawdust_17 rfl ⟨Nat.le_of_ble_eq_true rfl, Nat.le_of_ble_eq_true rfl⟩ (Nat.le_of_ble_eq_true rfl) hcs (kqI (fun N17 r17 => ?_))
    refine iv_X5_76 (c_X5_nothingFound _ _ _ _) (pc := 20) dX5_sawdust_20 rfl ⟨Nat.le_of_ble_eq_true rfl, Nat.le_of_ble_eq_true rfl⟩ (Nat.le_of_ble_eq_true rfl) hcs (kI ?_)
    exact r_iret (pc := 23) dX5_sawdust_23 rfl (by subst hPP; exact (by first | exact Or.inr (Or.inr ⟨hn1, r, hr, rfl, Or.inr ⟨p, rfl, hp40, hLC, hok, rfl, fun q hq => by by_cases z : q = 14; subst z; rw [mset_eq, mset_eq, (hf.trans r17) 14 (by omega)]; rw [mset_ne _ _ _ z, mset_ne _ _ _ z]; exact (hf.trans r17) q hq⟩⟩) | exact roR_1 r3 h8))
  · refine r_iload_n (pc := 11) dX5_sawdust_11 rfl ?_
    refine r_goto (tgt := 23) (pc := 12) dX5_sawdust_12 (by decide) ?_
    exact r_iret (pc := 23) dX5_sawdust_23 rfl (by subst hPP; exact (by first | exact Or.inr (Or.inr ⟨hn1, r, hr, rfl, Or.inr ⟨p, rfl, hp40, hLC, hok, rfl, fun q hq => by by_cases z : q = 14; subst z; rw [mset_eq, mset_eq, (hf.trans r17) 14 (by omega)]; rw [mset_ne _ _ _ z, mset_ne _ _ _ z]; exact (hf.trans r17) q hq⟩⟩) | exact roR_1 r3 h8))
set_option maxHeartbeats 4000000 in
set_option maxRecDepth 100000 in
theorem c_X5_pile (l : Launch) (G : Gx) (M : Mem) (x i : Int32) (S : Nat → Int32) (n : Nat) (hm : ms 18 n S M) (hR : Rg n S) (hW : rwR M) : Con l G yX5_pile cX5_pile 4 (some .int) 4 124 [.ref (gA G 14), .int x, .int i] M (fun (v : Option Value) (M' : Mem) => (n = 0 ∧ rI cState M v M') ∨ (0 < n ∧ ¬ rgG 0 7 x ∧ rI cBad M v M') ∨ (0 < n ∧ ∃ r, r ≤ 7 ∧ x = nI r ∧ ((∃ c, 1 ≤ c ∧ c ≤ 3 ∧ ((c ≤ 2 ∧ LC (M 2 r) i n c) ∨ (c = 3 ∧ LC (M 2 r) i n 0 ∧ ∃ p, i = nI p ∧ p + n ≤ 40 ∧ ¬ okN (fun j => M 3 (40 * r + p + j)) n n)) ∧ qI (fnV c) (fpc (mset M 14 11 (nI c))) v M') ∨ (∃ p, i = nI p ∧ p + n ≤ 40 ∧ LC (M 2 r) i n 0 ∧ okN (fun j => M 3 (40 * r + p + j)) n n ∧ qI (ansO (puN S (cI (fun j => M 3 (40 * r + p + j))) n (n - 1))) (fpc (mset M 14 11 (nI 0))) v M')))) := by
  refine Con.ofV [some (.ref (gA G 14)), some (.int x), some (.int i), none] RX5 (by decide) rfl (Nat.le_of_ble_eq_true rfl) rfl ?_
  intro κ hl hG hk0 hn0
  subst hl hG
  have hcs : κ.k ≤ 0 ∧ κ.n ≤ 0 := ⟨Nat.le_of_eq hk0, Nat.le_of_eq hn0⟩
  generalize hPP : (fun (v : Option Value) (M' : Mem) => (n = 0 ∧ rI cState M v M') ∨ (0 < n ∧ ¬ rgG 0 7 x ∧ rI cBad M v M') ∨ (0 < n ∧ ∃ r, r ≤ 7 ∧ x = nI r ∧ ((∃ c, 1 ≤ c ∧ c ≤ 3 ∧ ((c ≤ 2 ∧ LC (M 2 r) i n c) ∨ (c = 3 ∧ LC (M 2 r) i n 0 ∧ ∃ p, i = nI p ∧ p + n ≤ 40 ∧ ¬ okN (fun j => M 3 (40 * r + p + j)) n n)) ∧ qI (fnV c) (fpc (mset M 14 11 (nI c))) v M') ∨ (∃ p, i = nI p ∧ p + n ≤ 40 ∧ LC (M 2 r) i n 0 ∧ okN (fun j => M 3 (40 * r + p + j)) n n ∧ qI (ansO (puN S (cI (fun j => M 3 (40 * r + p + j))) n (n - 1))) (fpc (mset M 14 11 (nI 0))) v M')))) = PP
  have hn := hm.1
  have hn6 := hR.1
  refine r_aload_n (pc := 0) dX5_pile_0 rfl ?_
  refine r_iload_n (pc := 1) dX5_pile_1 rfl ?_
  refine r_iload_n (pc := 2) dX5_pile_2 rfl ?_
  refine iv_X5_229 (c_X5_refusalOfOrder _ _ _ x i S n hm hR hW) (pc := 3) dX5_pile_3 rfl ⟨Nat.le_of_ble_eq_true rfl, Nat.le_of_ble_eq_true rfl⟩ (Nat.le_of_ble_eq_true rfl) hcs (kqF (fun u3 N3 r3 => ?_))
  refine r_st_n [_, _, _, _] (pc := 6) dX5_pile_6 (by decide) rfl rfl ?_
  refine r_iload_n (pc := 7) dX5_pile_7 rfl ?_
  refine r_if_eq (tgt := 15) (pc := 8) dX5_pile_8 (by decide) (fun h8 => ?_) (fun h8 => ?_)
  · obtain ⟨hn1, r, hr, rfl, p, rfl, hp40, hLC, hok, hf, htd⟩ := roR_0 r3 h8
    have hcj : ∀ k, k < n → M 3 (40 * r + p + k) = nI (cI (fun j => M 3 (40 * r + p + j)) k) ∧ cI (fun j => M 3 (40 * r + p + j)) k < n := fun k hk => okN_c (I := fun j => M 3 (40 * r + p + j)) hok hk hn6
    refine r_aload_n (pc := 15) dX5_pile_15 rfl ?_
    refine r_aload_n (pc := 16) dX5_pile_16 rfl ?_
    refine iv_X5_235 (c_X5_fewestCushions _ _ _ S n (hf.ms hm) hR hn1 (cI (fun j => M 3 (40 * r + p + j))) (fun k hk => (htd k hk).trans (hcj k hk).1) (fun k hk => (hcj k hk).2) (fun i j hij hj => okN_inj hn6 hok hij hj)) (pc := 17) dX5_pile_17 rfl ⟨Nat.le_of_ble_eq_true rfl, Nat.le_of_ble_eq_true rfl⟩ (Nat.le_of_ble_eq_true rfl) hcs (kqI (fun N17 r17 => ?_))
    refine iv_X5_76 (c_X5_nothingFound _ _ _ _) (pc := 20) dX5_pile_20 rfl ⟨Nat.le_of_ble_eq_true rfl, Nat.le_of_ble_eq_true rfl⟩ (Nat.le_of_ble_eq_true rfl) hcs (kI ?_)
    exact r_iret (pc := 23) dX5_pile_23 rfl (by subst hPP; exact (by first | exact Or.inr (Or.inr ⟨hn1, r, hr, rfl, Or.inr ⟨p, rfl, hp40, hLC, hok, rfl, fun q hq => by by_cases z : q = 14; subst z; rw [mset_eq, mset_eq, (hf.trans r17) 14 (by omega)]; rw [mset_ne _ _ _ z, mset_ne _ _ _ z]; exact (hf.trans r17) q hq⟩⟩) | exact roR_1 r3 h8))
  · refine r_iload_n (pc := 11) dX5_pile_11 rfl ?_
    refine r_goto (tgt := 23) (pc := 12) dX5_pile_12 (by decide) ?_
    exact r_iret (pc := 23) dX5_pile_23 rfl (by subst hPP; exact (by first | exact Or.inr (Or.inr ⟨hn1, r, hr, rfl, Or.inr ⟨p, rfl, hp40, hLC, hok, rfl, fun q hq => by by_cases z : q = 14; subst z; rw [mset_eq, mset_eq, (hf.trans r17) 14 (by omega)]; rw [mset_ne _ _ _ z, mset_ne _ _ _ z]; exact (hf.trans r17) q hq⟩⟩) | exact roR_1 r3 h8))
