set_option maxHeartbeats 4000000 in
theorem s_fault (l : Launch) (G : Gx) (M : Mem) (h : Inv M) : LwS (Con l G yX5_fault cX5_fault 1 (some .int) 0 0 [.ref (gA G 14)] M) (fun M1 => Con l G yX6_fault cX6_fault 1 (some .int) 0 0 [.ref (gA G 0)] M1) := by
  obtain ⟨n, a, b, t, w, hI⟩ := h
  obtain ⟨⟨hm, hR, ht⟩, hW, hT, h4, hH, hG, hX, hE⟩ := id hI
  have hn := hR.2.1
  have hn6 := hR.1
  refine ⟨_, c_X5_fault l G M, fun v M1 h1 => ?_⟩
  obtain ⟨rfl, e1⟩ := h1
  obtain rfl : M = M1 := e1.symm
  refine ⟨_, rfl, _, c_X6_fault l G M, fun v2 M2 h2 => ?_⟩
  obtain ⟨rfl, rfl⟩ := h2
  exact ⟨by rw [h4.1.symm], _, _, _, _, _, hI⟩
set_option maxHeartbeats 4000000 in
theorem s_status (l : Launch) (G : Gx) (M : Mem) (h : Inv M) : LwS (Con l G yX5_status cX5_status 1 (some .int) 0 0 [.ref (gA G 14)] M) (fun M1 => Con l G yX6_status cX6_status 1 (some .int) 0 0 [.ref (gA G 0)] M1) := by
  obtain ⟨n, a, b, t, w, hI⟩ := h
  obtain ⟨⟨hm, hR, ht⟩, hW, hT, h4, hH, hG, hX, hE⟩ := id hI
  have hn := hR.2.1
  have hn6 := hR.1
  refine ⟨_, c_X5_status l G M, fun v M1 h1 => ?_⟩
  obtain ⟨rfl, e1⟩ := h1
  obtain rfl : M = M1 := e1.symm
  refine ⟨_, rfl, _, c_X6_status l G M, fun v2 M2 h2 => ?_⟩
  obtain ⟨rfl, rfl⟩ := h2
  exact ⟨by rw [h4.2.symm], _, _, _, _, _, hI⟩
set_option maxHeartbeats 4000000 in
theorem s_trace (l : Launch) (G : Gx) (M : Mem) (x : Int32) (h : Inv M) : LwS (Con l G yX5_trace cX5_trace 2 (some .int) 0 0 [.ref (gA G 14), .int x] M) (fun M1 => Con l G yX6_trace cX6_trace 2 (some .int) 1 25 [.ref (gA G 0), .int x] M1) := by
  obtain ⟨n, a, b, t, w, hI⟩ := h
  obtain ⟨⟨hm, hR, ht⟩, hW, hT, h4, hH, hG, hX, hE⟩ := id hI
  have hn := hR.2.1
  have hn6 := hR.1
  refine ⟨_, c_X5_trace l G M x t hX.2.2.1 hX.2.1, fun v M1 h1 => ?_⟩
  rcases h1 with ⟨g1, rfl, e1⟩ | ⟨p0, hb0, eq0, rfl, e1⟩
  · obtain rfl : M = M1 := e1.symm
    refine ⟨_, rfl, _, c_X6_trace l G M x t hX.2.2.1 hX.1, fun v2 M2 h2 => ?_⟩
    rcases h2 with ⟨g2, rfl, rfl⟩ | ⟨p0x, hb0x, eq0x, -⟩
    · exact ⟨rfl, _, _, _, _, _, hI⟩
    · exact absurd ⟨p0x, eq0x, hb0x⟩ g1
  · obtain rfl : M = M1 := e1.symm
    refine ⟨_, rfl, _, c_X6_trace l G M x t hX.2.2.1 hX.1, fun v2 M2 h2 => ?_⟩
    have ht16 := hX.2.2.1
    rcases h2 with ⟨g2, -⟩ | ⟨p0x, hb0x, eq0x, rfl, rfl⟩
    · exact absurd ⟨p0, eq0, hb0⟩ g2
    · obtain rfl : p0 = p0x := (nI_eq (by omega) (by omega)).mp (eq0.symm.trans eq0x)
      exact ⟨by rw [hX.2.2.2 p0 hb0], _, _, _, _, _, hI⟩
set_option maxHeartbeats 4000000 in
theorem s_count (l : Launch) (G : Gx) (M : Mem) (x : Int32) (h : Inv M) : LwS (Con l G yX5_count cX5_count 2 (some .int) 2 42 [.ref (gA G 14), .int x] M) (fun M1 => Con l G yX6_count cX6_count 4 (some .int) 1 23 [.ref (gA G 0), .int x] M1) := by
  obtain ⟨n, a, b, t, w, hI⟩ := h
  obtain ⟨⟨hm, hR, ht⟩, hW, hT, h4, hH, hG, hX, hE⟩ := id hI
  have hn := hR.2.1
  have hn6 := hR.1
  refine ⟨_, c_X5_count l G M x (M 4) n hm hR hW, fun v M1 h1 => ?_⟩
  have h40 : M 40 2 = M 0 19 := by
    obtain ⟨z1, o, -, -, -, z2, -⟩ := hH
    rw [z1, z2]
  rcases h1 with ⟨g1, rfl, e1⟩ | ⟨p0, hb0, eq0, rfl, e1⟩
  · obtain rfl : M = M1 := e1.symm
    refine ⟨_, rfl, _, c_X6_count l G M x n hn hn6, fun v2 M2 h2 => ?_⟩
    rcases h2 with ⟨g2, rfl, rfl⟩ | ⟨p0x, hb0x, eq0x, -⟩
    · exact ⟨rfl, _, _, _, _, _, hI⟩
    · exact absurd ⟨p0x, Nat.zero_le _, hb0x, eq0x⟩ g1
  · obtain rfl : M = M1 := e1.symm
    refine ⟨_, rfl, _, c_X6_count l G M x n hn hn6, fun v2 M2 h2 => ?_⟩
    rcases h2 with ⟨g2, -⟩ | ⟨p0x, hb0x, eq0x, rfl, rfl⟩
    · exact absurd ⟨p0, Nat.zero_le _, hb0, eq0⟩ g2
    · obtain rfl : p0 = p0x := (nI_eq (by omega) (by omega)).mp (eq0.symm.trans eq0x)
      exact ⟨by rw [cntV, hn, h40, hT.2.1, hT.1], _, _, _, _, _, hI⟩
set_option maxHeartbeats 4000000 in
theorem s_floor (l : Launch) (G : Gx) (M : Mem) (x : Int32) (h : Inv M) : LwS (Con l G yX5_floor cX5_floor 3 (some .int) 3 107 [.ref (gA G 14), .int x] M) (fun M1 => Con l G yX6_floor cX6_floor 4 (some .int) 6 134 [.ref (gA G 0), .int x] M1) := by
  obtain ⟨n, a, b, t, w, hI⟩ := h
  obtain ⟨⟨hm, hR, ht⟩, hW, hT, h4, hH, hG, hX, hE⟩ := id hI
  have hn := hR.2.1
  have hn6 := hR.1
  refine ⟨_, c_X5_floor l G M x (M 4) n hm hR, fun v M1 h1 => ?_⟩
  rcases h1 with ⟨g1, rfl, e1⟩ | ⟨p0, hb0, eq0, u1, hu1, rfl, hq⟩
  · obtain rfl : M = M1 := e1.symm
    refine ⟨_, rfl, _, c_X6_floor l G M x n hn hn6, fun v2 M2 h2 => ?_⟩
    rcases h2 with ⟨g2, rfl, rfl⟩ | ⟨p0x, hb0x, eq0x, -⟩
    · exact ⟨rfl, _, _, _, _, _, hI⟩
    · exact absurd ⟨p0x, hb0x, eq0x⟩ g1
  · have hq : fpc M M1 := hq
    have e4 : M1 4 = M 4 := hq 4 (by omega)
    refine ⟨_, rfl, _, c_X6_floor l G M1 x n (by rw [e4]; exact hn) hn6, fun v2 M2 h2 => ?_⟩
    rcases h2 with ⟨g2, -⟩ | ⟨p0x, hb0x, eq0x, j, hj, hj1, hj2, rfl, hr⟩
    · exact absurd ⟨p0, hb0, eq0⟩ g2
    · obtain rfl : p0 = p0x := (nI_eq (by omega) (by omega)).mp (eq0.symm.trans eq0x)
      rw [e4] at hj1 hj2
      have key : ∀ i, (goP (M 4) n i (11 + p0) ≤ 0 ↔ goP (M 4) n i (11 + p0) = 0) := fun i => by
        obtain ⟨lg, l1, l2⟩ := ((hR.go (by omega) i).c hb0).2.1
        rw [l2]
        exact ⟨fun z => by have := (nI_leI (a := lg) (b := 0) (by omega) (by omega)).mp z; rw [show lg = 0 by omega]; rfl, fun z => by rw [z]; decide⟩
      refine ⟨?_, _, _, _, _, _, hI.q hq hr⟩
      rw [e4]
      congr 2
      refine fst_u ?_ hu1
      by_cases hz : goP (M 4) n j (11 + p0) = 0
      · rw [if_pos hz]
        exact Or.inl ⟨j, by omega, hz, fun i hi y => hj1 i hi ((key i).mpr y), rfl⟩
      · rw [if_neg hz]
        have j60 : j = 60 := hj2.resolve_left (fun y => hz ((key j).mp y))
        refine Or.inr ⟨fun i hi y => ?_, rfl⟩
        by_cases e : i = j
        · rw [e] at y; exact hz y
        · exact hj1 i (by omega) ((key i).mpr y)
set_option maxHeartbeats 4000000 in
theorem s_rises (l : Launch) (G : Gx) (M : Mem) (x y : Int32) (h : Inv M) : LwS (Con l G yX5_rises cX5_rises 4 (some .int) 3 107 [.ref (gA G 14), .int x, .int y] M) (fun M1 => Con l G yX6_rises cX6_rises 5 (some .int) 6 134 [.ref (gA G 0), .int x, .int y] M1) := by
  obtain ⟨n, a, b, t, w, hI⟩ := h
  obtain ⟨⟨hm, hR, ht⟩, hW, hT, h4, hH, hG, hX, hE⟩ := id hI
  have hn := hR.2.1
  have hn6 := hR.1
  refine ⟨_, c_X5_rises l G M x y (M 4) n hm hR, fun v M1 h1 => ?_⟩
  rcases h1 with ⟨g1, rfl, e1⟩ | ⟨p0, p1, hb0, hb1, eq0, eq1, u1, hu1, rfl, hq⟩
  · obtain rfl : M = M1 := e1.symm
    refine ⟨_, rfl, _, c_X6_rises l G M x y n hn hn6, fun v2 M2 h2 => ?_⟩
    rcases h2 with ⟨g2, rfl, rfl⟩ | ⟨p0x, p1x, hb0x, hb1x, eq0x, eq1x, -⟩
    · exact ⟨rfl, _, _, _, _, _, hI⟩
    · exact absurd ⟨⟨p0x, hb0x, eq0x⟩, ⟨p1x, Nat.zero_le _, hb1x, eq1x⟩⟩ g1
  · have hq : fpc M M1 := hq
    have e4 : M1 4 = M 4 := hq 4 (by omega)
    refine ⟨_, rfl, _, c_X6_rises l G M1 x y n (by rw [e4]; exact hn) hn6, fun v2 M2 h2 => ?_⟩
    rcases h2 with ⟨g2, -⟩ | ⟨p0x, p1x, hb0x, hb1x, eq0x, eq1x, j, hj, hj1, hj2, rfl, hr⟩
    · exact absurd ⟨⟨p0, hb0, eq0⟩, ⟨p1, Nat.zero_le _, hb1, eq1⟩⟩ g2
    · obtain rfl : p0 = p0x := (nI_eq (by omega) (by omega)).mp (eq0.symm.trans eq0x)
      obtain rfl : p1 = p1x := (nI_eq (by omega) (by omega)).mp (eq1.symm.trans eq1x)
      rw [e4] at hj1 hj2
      have key : ∀ i, (nI (rankN (goP (M 4) n i) p0 n) ≤ nI p1 ↔ rankN (goP (M 4) n i) p0 n ≤ p1) := fun i => nI_leI (by have := rankN_le (goP (M 4) n i) p0 n; omega) (by omega)
      refine ⟨?_, _, _, _, _, _, hI.q hq hr⟩
      rw [e4]
      congr 2
      refine fst_u ?_ hu1
      by_cases hz : nI p1 < nI (rankN (goP (M 4) n j) p0 n)
      · rw [if_pos hz]
        have hz2 : ¬ nI (rankN (goP (M 4) n j) p0 n) ≤ nI p1 := Int32.not_le.mpr hz
        have j60 : j = 60 := hj2.resolve_left hz2
        refine Or.inr ⟨fun i hi y => ?_, rfl⟩
        by_cases e : i = j
        · rw [e] at y; exact hz2 ((key j).mpr y)
        · exact hj1 i (by omega) ((key i).mpr y)
      · rw [if_neg hz]
        exact Or.inl ⟨j, by omega, (key j).mp (Int32.not_lt.mp hz), fun i hi y => hj1 i hi ((key i).mpr y), rfl⟩
set_option maxHeartbeats 4000000 in
theorem s_as (l : Launch) (G : Gx) (M : Mem) (x y : Int32) (h : Inv M) : LwS (Con l G yX5_as cX5_as 3 (some .int) 2 45 [.ref (gA G 14), .int x, .int y] M) (fun M1 => Con l G yX6_as cX6_as 3 (some .int) 2 46 [.ref (gA G 0), .int x, .int y] M1) := by
  obtain ⟨n, a, b, t, w, hI⟩ := h
  obtain ⟨⟨hm, hR, ht⟩, hW, hT, h4, hH, hG, hX, hE⟩ := id hI
  have hn := hR.2.1
  have hn6 := hR.1
  refine ⟨_, c_X5_as l G M x y (M 4) n hm hR, fun v M1 h1 => ?_⟩
  rcases h1 with ⟨g1, rfl, e1⟩ | ⟨p0, p1, hb0, hb1, eq0, eq1, ⟨g3, rfl, e1⟩ | ⟨g3, rfl, e1⟩⟩
  · obtain rfl : M = M1 := e1.symm
    refine ⟨_, rfl, _, c_X6_as l G M x y n hn hn6, fun v2 M2 h2 => ?_⟩
    rcases h2 with ⟨g2, rfl, rfl⟩ | ⟨p0x, p1x, hb0x, hb1x, eq0x, eq1x, -⟩
    · exact ⟨rfl, _, _, _, _, _, hI⟩
    · exact absurd ⟨⟨p0x, hb0x, eq0x⟩, ⟨p1x, Nat.zero_le _, hb1x, eq1x⟩⟩ g1
  · have e4 : M1 4 = M 4 := by rw [e1, mset_ne _ _ _ (by decide)]
    refine ⟨_, rfl, _, c_X6_as l G M1 x y n (by rw [e4]; exact hn) hn6, fun v2 M2 h2 => ?_⟩
    rcases h2 with ⟨g2, -⟩ | ⟨p0x, p1x, hb0x, hb1x, eq0x, eq1x, ⟨y3, rfl, hr⟩ | ⟨y3, -⟩⟩
    · exact absurd ⟨⟨p0, hb0, eq0⟩, ⟨p1, Nat.zero_le _, hb1, eq1⟩⟩ g2
    · obtain rfl : p0 = p0x := (nI_eq (by omega) (by omega)).mp (eq0.symm.trans eq0x)
      obtain rfl : p1 = p1x := (nI_eq (by omega) (by omega)).mp (eq1.symm.trans eq1x)
      exact ⟨rfl, _, _, _, _, _, by rw [hr]; exact hI.f (by rw [e1]; exact fpc.refl _) (qm.refl M1)⟩
    · obtain rfl : p0 = p0x := (nI_eq (by omega) (by omega)).mp (eq0.symm.trans eq0x)
      obtain rfl : p1 = p1x := (nI_eq (by omega) (by omega)).mp (eq1.symm.trans eq1x)
      rw [e4] at y3
      exact absurd g3 y3
  · have e4 : M1 4 = M 4 := by rw [e1, mset_ne _ _ _ (by decide)]
    refine ⟨_, rfl, _, c_X6_as l G M1 x y n (by rw [e4]; exact hn) hn6, fun v2 M2 h2 => ?_⟩
    rcases h2 with ⟨g2, -⟩ | ⟨p0x, p1x, hb0x, hb1x, eq0x, eq1x, ⟨y3, -⟩ | ⟨y3, rfl, hr⟩⟩
    · exact absurd ⟨⟨p0, hb0, eq0⟩, ⟨p1, Nat.zero_le _, hb1, eq1⟩⟩ g2
    · obtain rfl : p0 = p0x := (nI_eq (by omega) (by omega)).mp (eq0.symm.trans eq0x)
      obtain rfl : p1 = p1x := (nI_eq (by omega) (by omega)).mp (eq1.symm.trans eq1x)
      rw [e4] at y3
      exact absurd y3 g3
    · exact ⟨rfl, _, _, _, _, _, by rw [hr]; exact hI.f (by rw [e1]; exact fpc.refl _) (qm.refl M1)⟩
set_option maxHeartbeats 4000000 in
theorem s_sawdust (l : Launch) (G : Gx) (M : Mem) (x i : Int32) (h : Inv M) : LwS (Con l G yX5_sawdust cX5_sawdust 4 (some .int) 4 124 [.ref (gA G 14), .int x, .int i] M) (fun M1 => Con l G yX6_sawdust cX6_sawdust 11 (some .int) 3 74 [.ref (gA G 0), .int x, .int i] M1) := by
  obtain ⟨n, a, b, t, w, hI⟩ := h
  obtain ⟨⟨hm, hR, ht⟩, hW, hT, h4, hH, hG, hX, hE⟩ := id hI
  have hn := hR.2.1
  have hn6 := hR.1
  refine ⟨_, c_X5_sawdust l G M x i (M 4) n hm hR hW, fun v M1 h1 => ?_⟩
  rcases h1 with ⟨z0, rfl, e1⟩ | ⟨z0, g1, rfl, e1⟩ | ⟨z0, r, hr, eq0, ⟨c, hc1, hc3, hc, rfl, hq⟩ | ⟨p, eqp, hpn, hL, hok, rfl, hq⟩⟩
  · obtain rfl : M = M1 := e1.symm
    have e4 : M 4 = M 4 := rfl
    have e0 : M 0 4 = M 0 4 := rfl
    have e2 : M 2 = M 2 := rfl
    refine ⟨_, rfl, _, c_X6_sawdust l G M x i n (by rw [e4]; exact hn) hn6 (by rw [e0]; exact ht) (hz_of hW e2) (fun c hc => by rw [e4]; exact (hR.c hc).2.1) (fun c hc => by rw [e4]; exact (hR.c hc).2.2.2.2), fun v2 M2 h2 => ?_⟩
    rcases h2 with ⟨u, ⟨y0, rfl, rfl⟩ | ⟨y0, -⟩ | ⟨y0, -⟩ | ⟨y0, -⟩, rfl⟩ | ⟨r2, p2, hz2, -⟩
    · exact ⟨rfl, _, _, _, _, _, hI⟩
    · exact absurd y0 (by omega)
    · exact absurd y0 (by omega)
    · exact absurd y0 (by omega)
    · exact absurd hz2.1 (by omega)
  · obtain rfl : M = M1 := e1.symm
    have e4 : M 4 = M 4 := rfl
    have e0 : M 0 4 = M 0 4 := rfl
    have e2 : M 2 = M 2 := rfl
    refine ⟨_, rfl, _, c_X6_sawdust l G M x i n (by rw [e4]; exact hn) hn6 (by rw [e0]; exact ht) (hz_of hW e2) (fun c hc => by rw [e4]; exact (hR.c hc).2.1) (fun c hc => by rw [e4]; exact (hR.c hc).2.2.2.2), fun v2 M2 h2 => ?_⟩
    rcases h2 with ⟨u, ⟨y0, -⟩ | ⟨y0, g2, rfl, rfl⟩ | ⟨y0, r2, c2, q1, q2, -⟩ | ⟨y0, r2, p2, q1, q2, -⟩, rfl⟩ | ⟨r2, p2, hz2, -⟩
    · exact absurd y0 (by omega)
    · exact ⟨rfl, _, _, _, _, _, hI⟩
    · exact absurd ⟨r2, Nat.zero_le _, q1, q2⟩ g1
    · exact absurd ⟨r2, Nat.zero_le _, q1, q2⟩ g1
    · exact absurd ⟨r2, Nat.zero_le _, hz2.2.1, hz2.2.2.1⟩ g1
  · have hq : fpc (mset M 14 11 (nI c)) M1 := hq
    have e4 : M1 4 = M 4 := (hq 4 (by omega)).trans (mset_ne _ _ _ (by decide))
    have e0 : M1 0 4 = M 0 4 := by rw [hq 0 (by omega), mset_ne _ _ _ (by decide)]
    have e2 : M1 2 = M 2 := (hq 2 (by omega)).trans (mset_ne _ _ _ (by decide))
    have e3 : M1 3 = M 3 := (hq 3 (by omega)).trans (mset_ne _ _ _ (by decide))
    refine ⟨_, rfl, _, c_X6_sawdust l G M1 x i n (by rw [e4]; exact hn) hn6 (by rw [e0]; exact ht) (hz_of hW e2) (fun c hc => by rw [e4]; exact (hR.c hc).2.1) (fun c hc => by rw [e4]; exact (hR.c hc).2.2.2.2), fun v2 M2 h2 => ?_⟩
    rcases h2 with ⟨u, ⟨y0, -⟩ | ⟨y0, g2, -⟩ | ⟨y0, r2, c2, q1, q2, q3, q4, q5, rfl, q6⟩ | ⟨y0, r2, p2, q1, q2, q3, q34, q4, q5, rfl, q6⟩, rfl⟩ | ⟨r2, p2, hz2, -⟩
    · exact absurd y0 (by omega)
    · exact absurd ⟨r, Nat.zero_le _, hr, eq0⟩ g2
    · obtain rfl : r = r2 := (nI_eq (by omega) (by omega)).mp (eq0.symm.trans q2)
      rw [e2] at q3
      rcases hc with ⟨k1, k2⟩ | ⟨k1, k2, -⟩
      · obtain rfl := LC_u k2 q3
        exact ⟨rfl, _, _, _, _, _, by rw [q6]; exact hI.f hq (qm.refl M1)⟩
      · exact absurd (LC_u q3 k2) q4
    · obtain rfl : r = r2 := (nI_eq (by omega) (by omega)).mp (eq0.symm.trans q2)
      rw [e2] at q4
      rcases hc with ⟨k1, k2⟩ | ⟨k1, k2, k3⟩
      · exact absurd (LC_u k2 q4) (by omega)
      · rw [k1] at hq ⊢
        exact ⟨rfl, _, _, _, _, _, by rw [q6]; exact hI.f hq (qm.refl M1)⟩
    · obtain ⟨w0, w1, w2, w3, w4, w5, w6⟩ := hz2
      obtain rfl : r = r2 := (nI_eq (by omega) (by omega)).mp (eq0.symm.trans w2)
      rw [e2] at w5
      rw [e3] at w6
      rcases hc with ⟨k1, k2⟩ | ⟨k1, k2, p3, k3, k34, k4⟩
      · exact absurd (LC_u k2 w5) (by omega)
      · obtain rfl : p2 = p3 := (nI_eq (by omega) (by omega)).mp (w3.symm.trans k3)
        exact absurd w6 k4
  · have hq : fpc (mset M 14 11 (nI 0)) M1 := hq
    have e4 : M1 4 = M 4 := (hq 4 (by omega)).trans (mset_ne _ _ _ (by decide))
    have e0 : M1 0 4 = M 0 4 := by rw [hq 0 (by omega), mset_ne _ _ _ (by decide)]
    have e2 : M1 2 = M 2 := (hq 2 (by omega)).trans (mset_ne _ _ _ (by decide))
    have e3 : M1 3 = M 3 := (hq 3 (by omega)).trans (mset_ne _ _ _ (by decide))
    refine ⟨_, rfl, _, c_X6_sawdust l G M1 x i n (by rw [e4]; exact hn) hn6 (by rw [e0]; exact ht) (hz_of hW e2) (fun c hc => by rw [e4]; exact (hR.c hc).2.1) (fun c hc => by rw [e4]; exact (hR.c hc).2.2.2.2), fun v2 M2 h2 => ?_⟩
    rcases h2 with ⟨u, ⟨y0, -⟩ | ⟨y0, g2, -⟩ | ⟨y0, r2, c2, q1, q2, q3, q4, -⟩ | ⟨y0, r2, p2, q1, q2, q3, q34, q4, q5, -⟩, rfl⟩ | ⟨r2, p2, hz2, rfl, q6⟩
    · exact absurd y0 (by omega)
    · exact absurd ⟨r, Nat.zero_le _, hr, eq0⟩ g2
    · obtain rfl : r = r2 := (nI_eq (by omega) (by omega)).mp (eq0.symm.trans q2)
      rw [e2] at q3
      exact absurd (LC_u q3 hL) q4
    · obtain rfl : r = r2 := (nI_eq (by omega) (by omega)).mp (eq0.symm.trans q2)
      obtain rfl : p = p2 := (nI_eq (by omega) (by omega)).mp (eqp.symm.trans q3)
      rw [e3] at q5
      exact absurd hok q5
    · obtain ⟨w0, w1, w2, w3, w4, w5, w6⟩ := hz2
      obtain rfl : r = r2 := (nI_eq (by omega) (by omega)).mp (eq0.symm.trans w2)
      obtain rfl : p = p2 := (nI_eq (by omega) (by omega)).mp (eqp.symm.trans w3)
      exact ⟨by rw [e4, e3], _, _, _, _, _, by rw [q6]; exact hI.f hq (qm.refl M1)⟩
set_option maxHeartbeats 4000000 in
theorem s_pile (l : Launch) (G : Gx) (M : Mem) (x i : Int32) (h : Inv M) : LwS (Con l G yX5_pile cX5_pile 4 (some .int) 4 124 [.ref (gA G 14), .int x, .int i] M) (fun M1 => Con l G yX6_pile cX6_pile 11 (some .int) 3 74 [.ref (gA G 0), .int x, .int i] M1) := by
  obtain ⟨n, a, b, t, w, hI⟩ := h
  obtain ⟨⟨hm, hR, ht⟩, hW, hT, h4, hH, hG, hX, hE⟩ := id hI
  have hn := hR.2.1
  have hn6 := hR.1
  refine ⟨_, c_X5_pile l G M x i (M 4) n hm hR hW, fun v M1 h1 => ?_⟩
  rcases h1 with ⟨z0, rfl, e1⟩ | ⟨z0, g1, rfl, e1⟩ | ⟨z0, r, hr, eq0, ⟨c, hc1, hc3, hc, rfl, hq⟩ | ⟨p, eqp, hpn, hL, hok, rfl, hq⟩⟩
  · obtain rfl : M = M1 := e1.symm
    have e4 : M 4 = M 4 := rfl
    have e0 : M 0 4 = M 0 4 := rfl
    have e2 : M 2 = M 2 := rfl
    refine ⟨_, rfl, _, c_X6_pile l G M x i n (by rw [e4]; exact hn) hn6 (by rw [e0]; exact ht) (hz_of hW e2) (fun c hc => by rw [e4]; exact (hR.c hc).2.1) (fun c hc => by rw [e4]; exact (hR.c hc).2.2.2.2), fun v2 M2 h2 => ?_⟩
    rcases h2 with ⟨u, ⟨y0, rfl, rfl⟩ | ⟨y0, -⟩ | ⟨y0, -⟩ | ⟨y0, -⟩, rfl⟩ | ⟨r2, p2, hz2, -⟩
    · exact ⟨rfl, _, _, _, _, _, hI⟩
    · exact absurd y0 (by omega)
    · exact absurd y0 (by omega)
    · exact absurd y0 (by omega)
    · exact absurd hz2.1 (by omega)
  · obtain rfl : M = M1 := e1.symm
    have e4 : M 4 = M 4 := rfl
    have e0 : M 0 4 = M 0 4 := rfl
    have e2 : M 2 = M 2 := rfl
    refine ⟨_, rfl, _, c_X6_pile l G M x i n (by rw [e4]; exact hn) hn6 (by rw [e0]; exact ht) (hz_of hW e2) (fun c hc => by rw [e4]; exact (hR.c hc).2.1) (fun c hc => by rw [e4]; exact (hR.c hc).2.2.2.2), fun v2 M2 h2 => ?_⟩
    rcases h2 with ⟨u, ⟨y0, -⟩ | ⟨y0, g2, rfl, rfl⟩ | ⟨y0, r2, c2, q1, q2, -⟩ | ⟨y0, r2, p2, q1, q2, -⟩, rfl⟩ | ⟨r2, p2, hz2, -⟩
    · exact absurd y0 (by omega)
    · exact ⟨rfl, _, _, _, _, _, hI⟩
    · exact absurd ⟨r2, Nat.zero_le _, q1, q2⟩ g1
    · exact absurd ⟨r2, Nat.zero_le _, q1, q2⟩ g1
    · exact absurd ⟨r2, Nat.zero_le _, hz2.2.1, hz2.2.2.1⟩ g1
  · have hq : fpc (mset M 14 11 (nI c)) M1 := hq
    have e4 : M1 4 = M 4 := (hq 4 (by omega)).trans (mset_ne _ _ _ (by decide))
    have e0 : M1 0 4 = M 0 4 := by rw [hq 0 (by omega), mset_ne _ _ _ (by decide)]
    have e2 : M1 2 = M 2 := (hq 2 (by omega)).trans (mset_ne _ _ _ (by decide))
    have e3 : M1 3 = M 3 := (hq 3 (by omega)).trans (mset_ne _ _ _ (by decide))
    refine ⟨_, rfl, _, c_X6_pile l G M1 x i n (by rw [e4]; exact hn) hn6 (by rw [e0]; exact ht) (hz_of hW e2) (fun c hc => by rw [e4]; exact (hR.c hc).2.1) (fun c hc => by rw [e4]; exact (hR.c hc).2.2.2.2), fun v2 M2 h2 => ?_⟩
    rcases h2 with ⟨u, ⟨y0, -⟩ | ⟨y0, g2, -⟩ | ⟨y0, r2, c2, q1, q2, q3, q4, q5, rfl, q6⟩ | ⟨y0, r2, p2, q1, q2, q3, q34, q4, q5, rfl, q6⟩, rfl⟩ | ⟨r2, p2, hz2, -⟩
    · exact absurd y0 (by omega)
    · exact absurd ⟨r, Nat.zero_le _, hr, eq0⟩ g2
    · obtain rfl : r = r2 := (nI_eq (by omega) (by omega)).mp (eq0.symm.trans q2)
      rw [e2] at q3
      rcases hc with ⟨k1, k2⟩ | ⟨k1, k2, -⟩
      · obtain rfl := LC_u k2 q3
        exact ⟨rfl, _, _, _, _, _, by rw [q6]; exact hI.f hq (qm.refl M1)⟩
      · exact absurd (LC_u q3 k2) q4
    · obtain rfl : r = r2 := (nI_eq (by omega) (by omega)).mp (eq0.symm.trans q2)
      rw [e2] at q4
      rcases hc with ⟨k1, k2⟩ | ⟨k1, k2, k3⟩
      · exact absurd (LC_u k2 q4) (by omega)
      · rw [k1] at hq ⊢
        exact ⟨rfl, _, _, _, _, _, by rw [q6]; exact hI.f hq (qm.refl M1)⟩
    · obtain ⟨w0, w1, w2, w3, w4, w5, w6⟩ := hz2
      obtain rfl : r = r2 := (nI_eq (by omega) (by omega)).mp (eq0.symm.trans w2)
      rw [e2] at w5
      rw [e3] at w6
      rcases hc with ⟨k1, k2⟩ | ⟨k1, k2, p3, k3, k34, k4⟩
      · exact absurd (LC_u k2 w5) (by omega)
      · obtain rfl : p2 = p3 := (nI_eq (by omega) (by omega)).mp (w3.symm.trans k3)
        exact absurd w6 k4
  · have hq : fpc (mset M 14 11 (nI 0)) M1 := hq
    have e4 : M1 4 = M 4 := (hq 4 (by omega)).trans (mset_ne _ _ _ (by decide))
    have e0 : M1 0 4 = M 0 4 := by rw [hq 0 (by omega), mset_ne _ _ _ (by decide)]
    have e2 : M1 2 = M 2 := (hq 2 (by omega)).trans (mset_ne _ _ _ (by decide))
    have e3 : M1 3 = M 3 := (hq 3 (by omega)).trans (mset_ne _ _ _ (by decide))
    refine ⟨_, rfl, _, c_X6_pile l G M1 x i n (by rw [e4]; exact hn) hn6 (by rw [e0]; exact ht) (hz_of hW e2) (fun c hc => by rw [e4]; exact (hR.c hc).2.1) (fun c hc => by rw [e4]; exact (hR.c hc).2.2.2.2), fun v2 M2 h2 => ?_⟩
    rcases h2 with ⟨u, ⟨y0, -⟩ | ⟨y0, g2, -⟩ | ⟨y0, r2, c2, q1, q2, q3, q4, -⟩ | ⟨y0, r2, p2, q1, q2, q3, q34, q4, q5, -⟩, rfl⟩ | ⟨r2, p2, hz2, rfl, q6⟩
    · exact absurd y0 (by omega)
    · exact absurd ⟨r, Nat.zero_le _, hr, eq0⟩ g2
    · obtain rfl : r = r2 := (nI_eq (by omega) (by omega)).mp (eq0.symm.trans q2)
      rw [e2] at q3
      exact absurd (LC_u q3 hL) q4
    · obtain rfl : r = r2 := (nI_eq (by omega) (by omega)).mp (eq0.symm.trans q2)
      obtain rfl : p = p2 := (nI_eq (by omega) (by omega)).mp (eqp.symm.trans q3)
      rw [e3] at q5
      exact absurd hok q5
    · obtain ⟨w0, w1, w2, w3, w4, w5, w6⟩ := hz2
      obtain rfl : r = r2 := (nI_eq (by omega) (by omega)).mp (eq0.symm.trans w2)
      obtain rfl : p = p2 := (nI_eq (by omega) (by omega)).mp (eqp.symm.trans w3)
      exact ⟨by rw [e4, e3], _, _, _, _, _, by rw [q6]; exact hI.f hq (qm.refl M1)⟩
