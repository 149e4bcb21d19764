theorem Rg_cong {n : Nat} {S S2 : Nat → Int32} (e : ∀ k, k < 41 → S2 k = S k) (h : Rg n S) : Rg n S2 := by
  obtain ⟨h1, h2, h3, h4, h5⟩ := h
  refine ⟨h1, by rw [e 2 (by omega)]; exact h2, by rw [e 1 (by omega)]; exact h3, by rw [e 4 (by omega)]; exact h4, fun c hc => ?_⟩
  unfold Rc
  rw [e _ (by omega), e _ (by omega), e _ (by omega), e _ (by omega), e _ (by omega)]
  exact h5 c hc
theorem ms_cong {o n : Nat} {S S2 : Nat → Int32} {M : Mem} (e : ∀ k, k < 41 → S2 k = S k) (hn : n ≤ 6) (h : ms o n S M) : ms o n S2 M := by
  obtain ⟨h1, h2, h3, h4, h5, h6⟩ := h
  refine ⟨h1, by rw [e 0 (by omega)]; exact h2, by rw [e 1 (by omega)]; exact h3, by rw [e 3 (by omega)]; exact h4, by rw [e 4 (by omega)]; exact h5, fun c hc => ?_⟩
  rw [e _ (by omega), e _ (by omega), e _ (by omega), e _ (by omega), e _ (by omega), e _ (by omega)]
  exact h6 c hc
theorem cs_cong {n : Nat} {S S2 A : Nat → Int32} (e : ∀ k, k < 41 → S2 k = S k) (hn : n ≤ 6) (h : cs n S A) : cs n S2 A := by
  obtain ⟨h1, h2, h3, h4, h5, h6⟩ := h
  refine ⟨h1, by rw [e 0 (by omega)]; exact h2, by rw [e 1 (by omega)]; exact h3, by rw [e 3 (by omega)]; exact h4, by rw [e 4 (by omega)]; exact h5, fun c hc => ?_⟩
  rw [e _ (by omega), e _ (by omega), e _ (by omega), e _ (by omega), e _ (by omega), e _ (by omega)]
  exact h6 c hc
theorem hsR_cong {N : Mem} {L L2 : Nat → Nat → Int32} {a : Nat} (e : ∀ i, i < a → ∀ k, k < 41 → L2 i k = L i k) (h : hsR N L a) : hsR N L2 a := by
  obtain ⟨old, h1, h2, h3, h4, h5⟩ := h
  refine ⟨old, h1, h2, h3, h4, fun i hi => ?_⟩
  obtain ⟨m, z1, z2, z3⟩ := h5 i hi
  exact ⟨m, z1, Rg_cong (e i hi) z2, cs_cong (e i hi) z2.1 z3⟩
theorem noteM_q (M : Mem) (a : Nat) {q : Nat} (h0 : q ≠ 0) (h9 : q ≠ 9) : noteM M a q = M q := by
  unfold noteM noteN
  split
  · rw [setA_ne _ _ h9, mset_ne _ _ _ h0, mset_ne _ _ _ h0, setA_ne _ _ h9]
  · rw [setA_ne _ _ h9, mset_ne _ _ _ h0]
theorem noteM_9 (M : Mem) {a : Nat} (ha : a ≤ 24) : ∀ i, i < min 24 (a + 1) → ∀ k, k < 41 → noteM M a 9 (41 * i + k) = psh (fun i k => M 9 (41 * i + k)) a (M 4) i k := by
  intro i hi k hk
  unfold noteM psh
  by_cases h : a = 24
  · rw [if_pos h, if_neg (by omega)]
    show fb_put (shf (M 9) 943) (M 4) (41 * 23) 41 (41 * i + k) = _
    by_cases z : i = 23
    · rw [if_pos z, fb_put_in (by omega) (by omega), show 41 * i + k - 41 * 23 = k by omega]
    · rw [if_neg z, fb_put_out (by omega)]
      show (if 41 * i + k < 943 then M 9 (41 * i + k + 41) else M 9 (41 * i + k)) = M 9 (41 * (i + 1) + k)
      rw [if_pos (by omega), show 41 * i + k + 41 = 41 * (i + 1) + k by omega]
  · rw [if_neg h, if_pos (show a < 24 by omega)]
    show fb_put (M 9) (M 4) (41 * a) 41 (41 * i + k) = _
    by_cases z : i = a
    · rw [if_pos z, fb_put_in (by omega) (by omega), show 41 * i + k - 41 * a = k by omega]
    · rw [if_neg z, fb_put_out (by omega)]
theorem psh_cong {L L2 : Nat → Nat → Int32} {a : Nat} {S : Nat → Int32} (ha : a ≤ 24) (e : ∀ i, i < a → ∀ k, k < 41 → L2 i k = L i k) : ∀ i, i < min 24 (a + 1) → ∀ k, k < 41 → psh L2 a S i k = psh L a S i k := by
  intro i hi k hk
  unfold psh
  by_cases h : a < 24
  · rw [if_pos h, if_pos h]
    by_cases z : i = a
    · rw [if_pos z, if_pos z]
    · rw [if_neg z, if_neg z]; exact e i (by omega) k hk
  · rw [if_neg h, if_neg h]
    by_cases z : i = 23
    · rw [if_pos z, if_pos z]
    · rw [if_neg z, if_neg z]; exact e (i + 1) (by omega) k hk
/-- what an act leaves: the class's memory M1, the reference's note and new numbers -/
theorem Iv.go {M M1 N : Mem} {n a a2 b t w : Nat} {S2 : Nat → Int32} {L2 : Nat → Nat → Int32} (h : Iv M n a b t w) (hn1 : 0 < n) (hk : AK M n S2 L2 a2 M1) (hR2 : Rg n S2) (h4 : N 4 = S2) (h19 : N 0 19 = nI a2) (h0 : ∀ j, j ≠ 19 → j ≠ 17 → N 0 j = M1 0 j) (hL : ∀ i, i < a2 → ∀ k, k < 41 → N 9 (41 * i + k) = L2 i k) (hq : ∀ q, q ≠ 0 → q ≠ 4 → q ≠ 8 → q ≠ 9 → N q = M1 q) : Iv N n a2 b t w := by
  obtain ⟨hf, hm2, hs2⟩ := hk
  obtain ⟨i1, i2, i3, i4, i5, i6, i7, i8⟩ := h
  have e0 : ∀ j, j ≠ 19 → j ≠ 17 → N 0 j = M 0 j := fun j z1 z2 => (h0 j z1 z2).trans (by rw [hf 0 (by omega)])
  have e : ∀ q, q ≠ 0 → q ≠ 4 → q ≠ 8 → q ≠ 9 → q < 18 ∨ (40 < q ∧ q < 61) ∨ 84 < q → N q = M q := fun q z1 z2 z3 z4 z5 => (hq q z1 z2 z3 z4).trans (hf q z5)
  refine ⟨⟨?_, by rw [h4]; exact hR2, by rw [e0 4 (by omega) (by omega)]; exact i1.2.2⟩, ?_, ?_, ?_, ⟨h19, ?_⟩, ?_, ?_, fun _ => hn1⟩
  · rw [h4]; exact hm2.fr (fun q z1 z2 => hq q (by omega) (by omega) (by omega) (by omega))
  · exact i2.fr (e 1 (by omega) (by omega) (by omega) (by omega) (by omega)) (e 2 (by omega) (by omega) (by omega) (by omega) (by omega)) (e 3 (by omega) (by omega) (by omega) (by omega) (by omega)) (fun q z1 z2 => e q (by omega) (by omega) (by omega) (by omega) (by omega))
  · exact i3.fr (e0 8 (by omega) (by omega)) (by rw [e 16 (by omega) (by omega) (by omega) (by omega) (by omega)]) (e 6 (by omega) (by omega) (by omega) (by omega) (by omega)) (e 17 (by omega) (by omega) (by omega) (by omega) (by omega))
  · exact i4.fr (by rw [e 14 (by omega) (by omega) (by omega) (by omega) (by omega)]) (by rw [e 14 (by omega) (by omega) (by omega) (by omega) (by omega)]) (e0 9 (by omega) (by omega)) (e0 3 (by omega) (by omega))
  · exact hsR_cong hL (hs2.fr (fun q z => hq q (by omega) (by omega) (by omega) (by omega)))
  · exact i6.fr (by rw [e 14 (by omega) (by omega) (by omega) (by omega) (by omega)]) (e 11 (by omega) (by omega) (by omega) (by omega) (by omega)) (e 12 (by omega) (by omega) (by omega) (by omega) (by omega)) (fun q z1 z2 => e q (by omega) (by omega) (by omega) (by omega) (by omega))
  · exact i7.fr (e0 24 (by omega) (by omega)) (e 43 (by omega) (by omega) (by omega) (by omega) (by omega)) (e 44 (by omega) (by omega) (by omega) (by omega) (by omega)) (e 13 (by omega) (by omega) (by omega) (by omega) (by omega))
theorem Iv.act {M M1 : Mem} {n a b t w : Nat} {S2 : Nat → Int32} (h : Iv M n a b t w) (hn1 : 0 < n) (hk : AK M n S2 (psh (fun i k => M 9 (41 * i + k)) a (M 4)) (min 24 (a + 1)) M1) (hR2 : Rg n S2) : Iv (setA (noteM M1 a) 4 S2) n (min 24 (a + 1)) b t w := by
  have ha : a ≤ 24 := by obtain ⟨-, o, z1, z2, -⟩ := h.2.2.2.2.1; exact z2
  have f0 := hk.1 0 (by omega)
  refine h.go hn1 hk hR2 (setA_eq _ _ _) ?_ (fun j z1 z2 => ?_) (fun i hi k hk2 => ?_) (fun q z1 z2 z3 z4 => ?_)
  · rw [setA_ne _ _ (by decide)]; exact noteM_19 M1 ha
  · rw [setA_ne _ _ (by decide)]; exact noteM_0 M1 a j z1
  · rw [setA_ne _ _ (by decide), noteM_9 M1 ha i hi k hk2, hk.1 9 (by omega), hk.1 4 (by omega)]
  · rw [setA_ne _ _ z2, noteM_q _ _ z1 z4]
theorem glue_Rg {n c : Nat} {S : Nat → Int32} (h1 : Rg n S) (hc : c < n) : Rg n (upd S (11 + c) (glueV S c)) := by
  have hn := h1.1
  obtain ⟨l, hl, el⟩ : ∃ l, l ≤ 60 ∧ glueV S c = nI l := by
    obtain ⟨gl, hg1, hg2, eg⟩ := h1.2.2.1
    obtain ⟨l1, l2⟩ := (h1.c hc).lg
    unfold glueV
    rw [l1, eg, nI_add]
    split
    · exact ⟨_, (nI_leI (by omega) (by omega)).mp (by assumption), rfl⟩
    · exact ⟨60, Nat.le_refl _, rfl⟩
  rw [el]
  exact h1.put (p := 11) (by omega) (by omega)
set_option maxHeartbeats 4000000 in
theorem s_cushions (l : Launch) (G : Gx) (M : Mem) (x y : Int32) (h : Inv M) : LwS (Con l G yX5_cushions cX5_cushions 4 (some .int) 3 102 [.ref (gA G 14), .int x, .int y] M) (fun M1 => Con l G yX6_cushions cX6_cushions 4 (some .int) 2 46 [.ref (gA G 0), .int x, .int y] M1) := by
  obtain ⟨n, a, b, t, w, hI⟩ := h
  obtain ⟨⟨hm, hR, ht⟩, hW, hT, h4, hH, hG, hX, hE⟩ := id hI
  have hn := hR.2.1
  have hn6 := hR.1
  obtain ⟨ha19, hH2⟩ := hH
  have ha24 : a ≤ 24 := by obtain ⟨o, z1, z2, -⟩ := hH2; exact z2
  refine ⟨_, c_X5_cushions l G M x y (M 4) n hm hR (fun i k => M 9 (41 * i + k)) a hH2, fun v M1 h1 => ?_⟩
  rcases h1 with ⟨g1, rfl, e1⟩ | ⟨p0, p1, hb0, hb1, eq0, eq1, rfl, hk⟩
  · obtain rfl : M = M1 := e1.symm
    refine ⟨_, rfl, _, c_X6_cushions l G M x y n hn hn6 a ha19 ha24, fun v2 M2 h2 => ?_⟩
    rcases h2 with ⟨g2, rfl, rfl⟩ | ⟨p0x, p1x, hb0x, hb1x, eq0x, eq1x, rfl, hr⟩
    · exact ⟨rfl, _, _, _, _, _, hI⟩
    · exact absurd ⟨⟨p0x, hb0x, eq0x⟩, ⟨p1x, Nat.zero_le _, hb1x, eq1x⟩⟩ g1
  · have e4 : M1 4 = M 4 := hk.1 4 (by omega)
    have e0 : M1 0 19 = M 0 19 := by rw [hk.1 0 (by omega)]
    refine ⟨_, rfl, _, c_X6_cushions l G M1 x y n (by rw [e4]; exact hn) hn6 a (by rw [e0]; exact ha19) ha24, fun v2 M2 h2 => ?_⟩
    rcases h2 with ⟨g2, rfl, hr⟩ | ⟨p0x, p1x, hb0x, hb1x, eq0x, eq1x, rfl, hr⟩
    · exact absurd ⟨⟨p0, hb0, eq0⟩, ⟨p1, Nat.zero_le _, hb1, eq1⟩⟩ g2
    · obtain rfl : p0 = p0x := (nI_eq (by omega) (by omega)).mp (eq0.symm.trans eq0x)
      obtain rfl : p1 = p1x := (nI_eq (by omega) (by omega)).mp (eq1.symm.trans eq1x)
      refine ⟨by rw [e4], n, min 24 (a + 1), b, t, w, ?_⟩
      · rw [hr]
        show Iv (setA (noteM M1 a) 4 (upd (noteM M1 a 4) (29 + p0) (nI p1))) n _ b t w
        rw [noteM_4, e4]
        exact hI.act (by omega) hk (hR.put (p := 29) (by omega) (by omega))
set_option maxHeartbeats 4000000 in
theorem s_saw (l : Launch) (G : Gx) (M : Mem) (x y : Int32) (h : Inv M) : LwS (Con l G yX5_saw cX5_saw 4 (some .int) 3 102 [.ref (gA G 14), .int x, .int y] M) (fun M1 => Con l G yX6_saw cX6_saw 4 (some .int) 2 46 [.ref (gA G 0), .int x, .int y] M1) := by
  obtain ⟨n, a, b, t, w, hI⟩ := h
  obtain ⟨⟨hm, hR, ht⟩, hW, hT, h4, hH, hG, hX, hE⟩ := id hI
  have hn := hR.2.1
  have hn6 := hR.1
  obtain ⟨ha19, hH2⟩ := hH
  have ha24 : a ≤ 24 := by obtain ⟨o, z1, z2, -⟩ := hH2; exact z2
  refine ⟨_, c_X5_saw l G M x y (M 4) n hm hR (fun i k => M 9 (41 * i + k)) a hH2, fun v M1 h1 => ?_⟩
  rcases h1 with ⟨g1, rfl, e1⟩ | ⟨p0, p1, hb0, hb1, eq0, eq1, rfl, hk⟩
  · obtain rfl : M = M1 := e1.symm
    refine ⟨_, rfl, _, c_X6_saw l G M x y n hn hn6 a ha19 ha24, fun v2 M2 h2 => ?_⟩
    rcases h2 with ⟨g2, rfl, rfl⟩ | ⟨p0x, p1x, hb0x, hb1x, eq0x, eq1x, rfl, hr⟩
    · exact ⟨rfl, _, _, _, _, _, hI⟩
    · exact absurd ⟨⟨p0x, hb0x, eq0x⟩, ⟨p1x, Nat.zero_le _, hb1x, eq1x⟩⟩ g1
  · have e4 : M1 4 = M 4 := hk.1 4 (by omega)
    have e0 : M1 0 19 = M 0 19 := by rw [hk.1 0 (by omega)]
    refine ⟨_, rfl, _, c_X6_saw l G M1 x y n (by rw [e4]; exact hn) hn6 a (by rw [e0]; exact ha19) ha24, fun v2 M2 h2 => ?_⟩
    rcases h2 with ⟨g2, rfl, hr⟩ | ⟨p0x, p1x, hb0x, hb1x, eq0x, eq1x, rfl, hr⟩
    · exact absurd ⟨⟨p0, hb0, eq0⟩, ⟨p1, Nat.zero_le _, hb1, eq1⟩⟩ g2
    · obtain rfl : p0 = p0x := (nI_eq (by omega) (by omega)).mp (eq0.symm.trans eq0x)
      obtain rfl : p1 = p1x := (nI_eq (by omega) (by omega)).mp (eq1.symm.trans eq1x)
      refine ⟨by rw [e4], n, min 24 (a + 1), b, t, w, ?_⟩
      · rw [hr]
        show Iv (setA (noteM M1 a) 4 (upd (noteM M1 a 4) (17 + p0) (nI p1))) n _ b t w
        rw [noteM_4, e4]
        exact hI.act (by omega) hk (hR.put (p := 17) (by omega) (by omega))
set_option maxHeartbeats 4000000 in
theorem s_mend (l : Launch) (G : Gx) (M : Mem) (x : Int32) (h : Inv M) : LwS (Con l G yX5_mend cX5_mend 2 (some .int) 3 102 [.ref (gA G 14), .int x] M) (fun M1 => Con l G yX6_mend cX6_mend 2 (some .int) 2 46 [.ref (gA G 0), .int x] M1) := by
  obtain ⟨n, a, b, t, w, hI⟩ := h
  obtain ⟨⟨hm, hR, ht⟩, hW, hT, h4, hH, hG, hX, hE⟩ := id hI
  have hn := hR.2.1
  have hn6 := hR.1
  obtain ⟨ha19, hH2⟩ := hH
  have ha24 : a ≤ 24 := by obtain ⟨o, z1, z2, -⟩ := hH2; exact z2
  refine ⟨_, c_X5_mend l G M x (M 4) n hm hR (fun i k => M 9 (41 * i + k)) a hH2, fun v M1 h1 => ?_⟩
  rcases h1 with ⟨g1, rfl, e1⟩ | ⟨p0, hb0, eq0, ⟨g3, rfl, e1⟩ | ⟨g3, rfl, hk⟩⟩
  · obtain rfl : M = M1 := e1.symm
    refine ⟨_, rfl, _, c_X6_mend l G M x n hn hn6 a ha19 ha24, fun v2 M2 h2 => ?_⟩
    rcases h2 with ⟨g2, rfl, rfl⟩ | ⟨p0x, hb0x, eq0x, -⟩
    · exact ⟨rfl, _, _, _, _, _, hI⟩
    · exact absurd ⟨p0x, hb0x, eq0x⟩ g1
  · obtain rfl : M = M1 := e1.symm
    refine ⟨_, rfl, _, c_X6_mend l G M x n hn hn6 a ha19 ha24, fun v2 M2 h2 => ?_⟩
    rcases h2 with ⟨g2, -⟩ | ⟨p0x, hb0x, eq0x, ⟨g4, rfl, rfl⟩ | ⟨g4, -⟩⟩
    · exact absurd ⟨p0, hb0, eq0⟩ g2
    · exact ⟨rfl, _, _, _, _, _, hI⟩
    · obtain rfl : p0 = p0x := (nI_eq (by omega) (by omega)).mp (eq0.symm.trans eq0x)
      exact absurd g3 g4
  · have e4 : M1 4 = M 4 := hk.1 4 (by omega)
    have e0 : M1 0 19 = M 0 19 := by rw [hk.1 0 (by omega)]
    refine ⟨_, rfl, _, c_X6_mend l G M1 x n (by rw [e4]; exact hn) hn6 a (by rw [e0]; exact ha19) ha24, fun v2 M2 h2 => ?_⟩
    rcases h2 with ⟨g2, -⟩ | ⟨p0x, hb0x, eq0x, ⟨g4, -⟩ | ⟨g4, rfl, hr⟩⟩
    · exact absurd ⟨p0, hb0, eq0⟩ g2
    · obtain rfl : p0 = p0x := (nI_eq (by omega) (by omega)).mp (eq0.symm.trans eq0x)
      rw [e4] at g4
      exact absurd g4 g3
    · obtain rfl : p0 = p0x := (nI_eq (by omega) (by omega)).mp (eq0.symm.trans eq0x)
      refine ⟨by rw [e4], n, min 24 (a + 1), b, t, w, ?_⟩
      · rw [hr]
        show Iv (setA (noteM M1 a) 4 (upd (noteM M1 a 4) (11 + p0) (glueV (M1 4) p0))) n _ b t w
        rw [noteM_4, e4]
        exact hI.act (by omega) hk (glue_Rg hR hb0)
set_option maxHeartbeats 4000000 in
theorem s_watch (l : Launch) (G : Gx) (M : Mem) (x y : Int32) (h : Inv M) : LwS (Con l G yX5_watch cX5_watch 3 (some .int) 3 102 [.ref (gA G 14), .int x, .int y] M) (fun M1 => Con l G yX6_watch cX6_watch 3 (some .int) 2 46 [.ref (gA G 0), .int x, .int y] M1) := by
  obtain ⟨n, a, b, t, w, hI⟩ := h
  obtain ⟨⟨hm, hR, ht⟩, hW, hT, h4, hH, hG, hX, hE⟩ := id hI
  have hn := hR.2.1
  have hn6 := hR.1
  obtain ⟨ha19, hH2⟩ := hH
  have ha24 : a ≤ 24 := by obtain ⟨o, z1, z2, -⟩ := hH2; exact z2
  obtain ⟨wd, hwn, hwd⟩ := hR.2.2.2.1
  have h64n := two6 n hn6
  have hw64 : wd < 64 := by omega
  refine ⟨_, c_X5_watch l G M x y (M 4) n hm hR wd hwd hw64 (fun i k => M 9 (41 * i + k)) a hH2, fun v M1 h1 => ?_⟩
  rcases h1 with ⟨g1, rfl, e1⟩ | ⟨p0, p1, hb0, hb1, eq0, eq1, ⟨g3, rfl, e1⟩ | ⟨g3, g5, g6, rfl, e1⟩ | ⟨g3, g5, rfl, hk⟩⟩
  · obtain rfl : M = M1 := e1.symm
    refine ⟨_, rfl, _, c_X6_watch l G M x y wd hwd hw64 n hn hn6 a ha19 ha24, fun v2 M2 h2 => ?_⟩
    rcases h2 with ⟨g2, rfl, rfl⟩ | ⟨p0x, p1x, hb0x, hb1x, eq0x, eq1x, -⟩
    · exact ⟨rfl, _, _, _, _, _, hI⟩
    · exact absurd ⟨⟨p0x, hb0x, eq0x⟩, ⟨p1x, Nat.zero_le _, hb1x, eq1x⟩⟩ g1
  · obtain rfl : M = M1 := e1.symm
    refine ⟨_, rfl, _, c_X6_watch l G M x y wd hwd hw64 n hn hn6 a ha19 ha24, fun v2 M2 h2 => ?_⟩
    rcases h2 with ⟨g2, -⟩ | ⟨p0x, p1x, hb0x, hb1x, eq0x, eq1x, ⟨y3, rfl, rfl⟩ | ⟨y3, -⟩ | ⟨y3, -⟩⟩
    · exact absurd ⟨⟨p0, hb0, eq0⟩, ⟨p1, Nat.zero_le _, hb1, eq1⟩⟩ g2
    · exact ⟨rfl, _, _, _, _, _, hI⟩
    · obtain rfl : p0 = p0x := (nI_eq (by omega) (by omega)).mp (eq0.symm.trans eq0x)
      obtain rfl : p1 = p1x := (nI_eq (by omega) (by omega)).mp (eq1.symm.trans eq1x)
      exact absurd g3 y3
    · obtain rfl : p0 = p0x := (nI_eq (by omega) (by omega)).mp (eq0.symm.trans eq0x)
      obtain rfl : p1 = p1x := (nI_eq (by omega) (by omega)).mp (eq1.symm.trans eq1x)
      exact absurd g3 y3
  · obtain rfl : M = M1 := e1.symm
    refine ⟨_, rfl, _, c_X6_watch l G M x y wd hwd hw64 n hn hn6 a ha19 ha24, fun v2 M2 h2 => ?_⟩
    rcases h2 with ⟨g2, -⟩ | ⟨p0x, p1x, hb0x, hb1x, eq0x, eq1x, ⟨y3, -⟩ | ⟨y3, y5, y6, rfl, rfl⟩ | ⟨y3, y5, -⟩⟩
    · exact absurd ⟨⟨p0, hb0, eq0⟩, ⟨p1, Nat.zero_le _, hb1, eq1⟩⟩ g2
    · obtain rfl : p0 = p0x := (nI_eq (by omega) (by omega)).mp (eq0.symm.trans eq0x)
      obtain rfl : p1 = p1x := (nI_eq (by omega) (by omega)).mp (eq1.symm.trans eq1x)
      exact absurd y3 g3
    · exact ⟨rfl, _, _, _, _, _, hI⟩
    · obtain rfl : p0 = p0x := (nI_eq (by omega) (by omega)).mp (eq0.symm.trans eq0x)
      obtain rfl : p1 = p1x := (nI_eq (by omega) (by omega)).mp (eq1.symm.trans eq1x)
      exact absurd ⟨g5, g6⟩ y5
  · have e4 : M1 4 = M 4 := hk.1 4 (by omega)
    have e0 : M1 0 19 = M 0 19 := by rw [hk.1 0 (by omega)]
    refine ⟨_, rfl, _, c_X6_watch l G M1 x y wd (by rw [e4]; exact hwd) hw64 n (by rw [e4]; exact hn) hn6 a (by rw [e0]; exact ha19) ha24, fun v2 M2 h2 => ?_⟩
    rcases h2 with ⟨g2, -⟩ | ⟨p0x, p1x, hb0x, hb1x, eq0x, eq1x, ⟨y3, -⟩ | ⟨y3, y5, y6, -⟩ | ⟨y3, y5, rfl, hr⟩⟩
    · exact absurd ⟨⟨p0, hb0, eq0⟩, ⟨p1, Nat.zero_le _, hb1, eq1⟩⟩ g2
    · obtain rfl : p0 = p0x := (nI_eq (by omega) (by omega)).mp (eq0.symm.trans eq0x)
      obtain rfl : p1 = p1x := (nI_eq (by omega) (by omega)).mp (eq1.symm.trans eq1x)
      rw [e4] at y3
      exact absurd y3 g3
    · obtain rfl : p0 = p0x := (nI_eq (by omega) (by omega)).mp (eq0.symm.trans eq0x)
      obtain rfl : p1 = p1x := (nI_eq (by omega) (by omega)).mp (eq1.symm.trans eq1x)
      rw [e4] at y6
      exact absurd ⟨y5, y6⟩ g5
    · obtain rfl : p0 = p0x := (nI_eq (by omega) (by omega)).mp (eq0.symm.trans eq0x)
      obtain rfl : p1 = p1x := (nI_eq (by omega) (by omega)).mp (eq1.symm.trans eq1x)
      refine ⟨by rw [e4], n, min 24 (a + 1), b, t, w, ?_⟩
      · rw [hr]
        show Iv (setA (noteM M1 a) 4 (upd (noteM M1 a 4) 4 (M1 4 4 ^^^ nI 1 <<< (nI p0 &&& 31)))) n _ b t w
        rw [noteM_4, e4]
        exact hI.act (by omega) hk (hR.wxor hb0)
set_option maxHeartbeats 4000000 in
theorem s_change (l : Launch) (G : Gx) (M : Mem) (x y : Int32) (h : Inv M) : LwS (Con l G yX5_change cX5_change 3 (some .int) 3 102 [.ref (gA G 14), .int x, .int y] M) (fun M1 => Con l G yX6_change cX6_change 3 (some .int) 5 111 [.ref (gA G 0), .int x, .int y] M1) := by
  obtain ⟨n, a, b, t, w, hI⟩ := h
  obtain ⟨⟨hm, hR, ht⟩, hW, hT, h4, hH, hG, hX, hE⟩ := id hI
  have hn := hR.2.1
  have hn6 := hR.1
  obtain ⟨ha19, hH2⟩ := hH
  have ha24 : a ≤ 24 := by obtain ⟨o, z1, z2, -⟩ := hH2; exact z2
  refine ⟨_, c_X5_change l G M x y (M 4) n hm hR (fun i k => M 9 (41 * i + k)) a hH2, fun v M1 h1 => ?_⟩
  rcases h1 with ⟨g1, rfl, e1⟩ | ⟨p0, p1, hb0, hb1, hne, eq0, eq1, rfl, hk⟩
  · obtain rfl : M = M1 := e1.symm
    refine ⟨_, rfl, _, c_X6_change l G M x y n hn hn6 a ha19 ha24, fun v2 M2 h2 => ?_⟩
    rcases h2 with ⟨g2, rfl, rfl⟩ | ⟨p0x, p1x, hb0x, hb1x, hnex, eq0x, eq1x, -⟩
    · exact ⟨rfl, _, _, _, _, _, hI⟩
    · exact absurd ⟨⟨p0x, hb0x, eq0x⟩, ⟨p1x, hb1x, eq1x⟩, fun z => hnex ((nI_eq (by omega) (by omega)).mp (eq0x.symm.trans (z.trans eq1x)))⟩ g1
  · have e4 : M1 4 = M 4 := hk.1 4 (by omega)
    have e0 : M1 0 19 = M 0 19 := by rw [hk.1 0 (by omega)]
    refine ⟨_, rfl, _, c_X6_change l G M1 x y n (by rw [e4]; exact hn) hn6 a (by rw [e0]; exact ha19) ha24, fun v2 M2 h2 => ?_⟩
    rcases h2 with ⟨g2, -⟩ | ⟨p0x, p1x, hb0x, hb1x, hnex, eq0x, eq1x, rfl, hr⟩
    · exact absurd ⟨⟨p0, hb0, eq0⟩, ⟨p1, hb1, eq1⟩, fun z => hne ((nI_eq (by omega) (by omega)).mp (eq0.symm.trans (z.trans eq1)))⟩ g2
    · obtain rfl : p0 = p0x := (nI_eq (by omega) (by omega)).mp (eq0.symm.trans eq0x)
      obtain rfl : p1 = p1x := (nI_eq (by omega) (by omega)).mp (eq1.symm.trans eq1x)
      refine ⟨by rw [e4], n, min 24 (a + 1), b, t, w, ?_⟩
      · rw [hr, e4]
        exact hI.act (by omega) hk (hR.chg hb0 hb1)
theorem nt_all {M : Mem} {n a : Nat} (hn1 : 0 < n) (ha : a ≤ 24) : ∀ j, ntM M n a j 4 = goP (M 4) n j ∧ (∀ i, i < min 24 (a + j) → ∀ k, k < 41 → ntM M n a j 9 (41 * i + k) = psN (fun i k => M 9 (41 * i + k)) a (M 4) n j i k) ∧ (∀ x, x ≠ 19 → x ≠ 17 → ntM M n a j 0 x = M 0 x) ∧ ∀ q, q ≠ 0 → q ≠ 4 → q ≠ 8 → q ≠ 9 → ntM M n a j q = M q
  | 0 => ⟨rfl, fun _ _ _ _ => rfl, fun _ _ _ => rfl, fun _ _ _ _ _ => rfl⟩
  | j + 1 => by
    obtain ⟨h1, h2, h3, h4⟩ := nt_all (M := M) (n := n) (a := a) hn1 ha j
    have e9 : ntM M n a (j + 1) 9 = noteM (ntM M n a j) (min 24 (a + j)) 9 := rfl
    refine ⟨?_, fun i hi k hk => ?_, fun x z1 z2 => ?_, fun q z0 z4 z8 z9 => ?_⟩
    · show nightS (noteM (ntM M n a j) (min 24 (a + j)) 4) (zerA (noteM (ntM M n a j) (min 24 (a + j)) 8) n) n = nightP (goP (M 4) n j) n
      rw [nightS_P _ _ hn1, noteM_4, h1]
    · rw [e9, noteM_9 _ (by omega) i (by omega) k hk, h1]
      show _ = psh (psN (fun i k => M 9 (41 * i + k)) a (M 4) n j) (min 24 (a + j)) (goP (M 4) n j) i k
      exact psh_cong (by omega) h2 i (by omega) k hk
    · show upd (noteM (ntM M n a j) (min 24 (a + j)) 0) 17 _ x = _
      rw [pk_un z2, noteM_0 _ _ _ z1]
      exact h3 x z1 z2
    · show nightM (noteM (ntM M n a j) (min 24 (a + j))) n q = _
      unfold nightM
      rw [setA_ne _ _ z4, setA_ne _ _ z8, mset_ne _ _ _ z0, noteM_q _ _ z0 z9]
      exact h4 q z0 z4 z8 z9
set_option maxHeartbeats 4000000 in
theorem s_nights (l : Launch) (G : Gx) (M : Mem) (x : Int32) (h : Inv M) : LwS (Con l G yX5_nights cX5_nights 3 (some .int) 3 107 [.ref (gA G 14), .int x] M) (fun M1 => Con l G yX6_nights cX6_nights 3 (some .int) 6 134 [.ref (gA G 0), .int x] M1) := by
  obtain ⟨n, a, b, t, w, hI⟩ := h
  obtain ⟨⟨hm, hR, ht⟩, hW, hT, h4, hH, hG, hX, hE⟩ := id hI
  have hn := hR.2.1
  have hn6 := hR.1
  obtain ⟨ha19, hH2⟩ := hH
  have ha24 : a ≤ 24 := by obtain ⟨o, z1, z2, -⟩ := hH2; exact z2
  refine ⟨_, c_X5_nights l G M x (M 4) n hm hR (fun i k => M 9 (41 * i + k)) a hH2, fun v M1 h1 => ?_⟩
  rcases h1 with ⟨z0, rfl, e1⟩ | ⟨z0, g1, rfl, e1⟩ | ⟨z0, p0, ha0, hb0, eq0, ⟨g3, rfl, e1⟩ | ⟨g3, rfl, hk⟩⟩
  · obtain rfl : M = M1 := e1.symm
    refine ⟨_, rfl, _, c_X6_nights l G M x n hn hn6 ht a ha19 ha24, fun v2 M2 h2 => ?_⟩
    rcases h2 with ⟨y0, rfl, rfl⟩ | ⟨y0, -⟩ | ⟨y0, -⟩
    · exact ⟨rfl, _, _, _, _, _, hI⟩
    · exact absurd y0 (by omega)
    · exact absurd y0 (by omega)
  · obtain rfl : M = M1 := e1.symm
    refine ⟨_, rfl, _, c_X6_nights l G M x n hn hn6 ht a ha19 ha24, fun v2 M2 h2 => ?_⟩
    rcases h2 with ⟨y0, -⟩ | ⟨y0, g2, rfl, rfl⟩ | ⟨y0, p0x, ha0x, hb0x, eq0x, -⟩
    · exact absurd y0 (by omega)
    · exact ⟨rfl, _, _, _, _, _, hI⟩
    · exact absurd ⟨p0x, ha0x, hb0x, eq0x⟩ g1
  · obtain rfl : M = M1 := e1.symm
    refine ⟨_, rfl, _, c_X6_nights l G M x n hn hn6 ht a ha19 ha24, fun v2 M2 h2 => ?_⟩
    rcases h2 with ⟨y0, -⟩ | ⟨y0, g2, -⟩ | ⟨y0, p0x, ha0x, hb0x, eq0x, ⟨g4, rfl, rfl⟩ | ⟨g4, -⟩⟩
    · exact absurd y0 (by omega)
    · exact absurd ⟨p0, ha0, hb0, eq0⟩ g2
    · exact ⟨rfl, _, _, _, _, _, hI⟩
    · obtain rfl : p0 = p0x := (nI_eq (by omega) (by omega)).mp (eq0.symm.trans eq0x)
      exact absurd g4 g3
  · have e4 : M1 4 = M 4 := hk.1 4 (by omega)
    have e9 : M1 9 = M 9 := hk.1 9 (by omega)
    have e0 : M1 0 = M 0 := hk.1 0 (by omega)
    refine ⟨_, rfl, _, c_X6_nights l G M1 x n (by rw [e4]; exact hn) hn6 (by rw [e0]; exact ht) a (by rw [e0]; exact ha19) ha24, fun v2 M2 h2 => ?_⟩
    rcases h2 with ⟨y0, -⟩ | ⟨y0, g2, -⟩ | ⟨y0, p0x, ha0x, hb0x, eq0x, ⟨g4, -⟩ | ⟨g4, rfl, hr⟩⟩
    · exact absurd y0 (by omega)
    · exact absurd ⟨p0, ha0, hb0, eq0⟩ g2
    · obtain rfl : p0 = p0x := (nI_eq (by omega) (by omega)).mp (eq0.symm.trans eq0x)
      rw [e4] at g4
      exact absurd g3 g4
    · obtain rfl : p0 = p0x := (nI_eq (by omega) (by omega)).mp (eq0.symm.trans eq0x)
      obtain ⟨k1, k2, k3, k4⟩ := nt_all (M := M1) (n := n) (a := a) y0 ha24 p0
      rw [e9, e4] at k2
      refine ⟨by rw [k1, e4], n, min 24 (a + p0), b, t, w, ?_⟩
      rw [hr]
      exact hI.go y0 hk (hR.go y0 p0) (by rw [k1, e4]) (ntM_19 M1 n a (by rw [e0]; exact ha19) ha24 p0) k3 k2 k4
