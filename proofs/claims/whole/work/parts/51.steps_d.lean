theorem Iv.rows {M N : Mem} {n a b t w : Nat} (h : Iv M n a b t w) (c : Int32) (hr : rwR N) (e : ∀ q, q ≠ 0 → q ≠ 1 → q ≠ 2 → q ≠ 3 → q ≠ 5 → q ≠ 14 → q < 45 ∨ 60 < q → N q = M q) (e0 : ∀ j, j ≠ 3 → N 0 j = M 0 j) (e14 : ∀ j, j ≠ 11 → N 14 j = M 14 j) (c0 : N 0 3 = c) (c14 : N 14 11 = c) : Iv N n a b t w := by
  obtain ⟨i1, i2, i3, i4, i5, i6, i7, i8⟩ := h
  exact ⟨i1.fr (e 4 (by decide) (by decide) (by decide) (by decide) (by decide) (by decide) (by decide)) (e0 4 (by decide)) (fun q z1 z2 => e q (by omega) (by omega) (by omega) (by omega) (by omega) (by omega) (by omega)), hr,
    i3.fr (e0 8 (by decide)) (by rw [(e 16 (by decide) (by decide) (by decide) (by decide) (by decide) (by decide) (by decide))]) (e 6 (by decide) (by decide) (by decide) (by decide) (by decide) (by decide) (by decide)) (e 17 (by decide) (by decide) (by decide) (by decide) (by decide) (by decide) (by decide)),
    ⟨by rw [e14 10 (by decide), e0 9 (by decide)]; exact i4.1, by rw [c0, c14]⟩,
    i5.fr (e0 19 (by decide)) (e 9 (by decide) (by decide) (by decide) (by decide) (by decide) (by decide) (by decide)) (fun q z => e q (by omega) (by omega) (by omega) (by omega) (by omega) (by omega) (by omega)),
    i6.fr (e14 9 (by decide)) (e 11 (by decide) (by decide) (by decide) (by decide) (by decide) (by decide) (by decide)) (e 12 (by decide) (by decide) (by decide) (by decide) (by decide) (by decide) (by decide)) (fun q z1 z2 => e q (by omega) (by omega) (by omega) (by omega) (by omega) (by omega) (by omega)),
    i7.fr (e0 24 (by decide)) (e 43 (by decide) (by decide) (by decide) (by decide) (by decide) (by decide) (by decide)) (e 44 (by decide) (by decide) (by decide) (by decide) (by decide) (by decide) (by decide)) (e 13 (by decide) (by decide) (by decide) (by decide) (by decide) (by decide) (by decide)), i8⟩
theorem row_miss {M : Mem} (h : rwR M) {r : Nat} (hr : r ≤ 7) : M 2 r < 0 ↔ M (45 + r) 1 = -1 := by
  rcases h r hr with ⟨z1, z2⟩ | ⟨s, l, z1, z2, z3, z4, z5, z6, -⟩
  · exact ⟨fun _ => z2, fun _ => z1⟩
  · rw [z3, z6]
    exact ⟨fun y => absurd y (nI_pos (by omega)), fun y => absurd y ((by decide : ∀ l : Nat, l < 3 → ¬ nI l = -1) l (by omega))⟩
theorem rwR.one {M N : Mem} {r : Nat} (h : rwR M) (h1 : ∀ k, k ≤ 7 → k ≠ r → N 1 k = M 1 k ∧ N 2 k = M 2 k ∧ N (45 + k) = M (45 + k) ∧ N (53 + k) = M (53 + k) ∧ ∀ i, i < 40 → N 3 (40 * k + i) = M 3 (40 * k + i))
    (h2 : r ≤ 7 → (N 2 r < 0 ∧ N (45 + r) 1 = -1) ∨ (∃ s l, s ≤ 40 ∧ l ≤ 2 ∧ N 2 r = nI s ∧ N (45 + r) 2 = nI s ∧ N 1 r = nI l ∧ N (45 + r) 1 = nI l ∧ ∀ i, i < 40 → N (53 + r) i = N 3 (40 * r + i))) : rwR N := by
  intro k hk
  by_cases e : k = r
  · subst e; exact h2 hk
  · obtain ⟨e1, e2, e3, e4, e5⟩ := h1 k hk e
    rw [e1, e2, e3, e4]
    rcases h k hk with z | ⟨s, l, z1, z2, z3, z4, z5, z6, z7⟩
    · exact Or.inl z
    · exact Or.inr ⟨s, l, z1, z2, z3, z4, z5, z6, fun i hi => by rw [e5 i hi]; exact z7 i hi⟩
set_option maxHeartbeats 4000000 in
theorem s_row (l : Launch) (G : Gx) (M : Mem) (x y z : Int32) (h : Inv M) : LwS (Con l G yX5_row cX5_row 4 (some .int) 2 82 [.ref (gA G 14), .int x, .int y, .int z] M) (fun M1 => Con l G yX6_row cX6_row 5 (some .int) 2 45 [.ref (gA G 0), .int x, .int y, .int z] M1) := by
  obtain ⟨n, a, b, t, w, hI⟩ := h
  obtain ⟨⟨hm, hR, ht⟩, hW, hT, h4, hH, hG, hX, hE⟩ := id hI
  have hn := hR.2.1
  have hn6 := hR.1
  refine ⟨_, c_X5_row l G M x y z, fun v M1 h1 => ?_⟩
  rcases h1 with ⟨g1, rfl, e1⟩ | ⟨p0, p1, hb0, hb1, eq0, eq1, h40, ⟨g3, rfl, e1⟩ | ⟨s, hs, eqs, rfl, e1⟩⟩
  · obtain rfl : M = M1 := e1.symm
    refine ⟨_, rfl, _, c_X6_row l G M x y z, fun v2 M2 h2 => ?_⟩
    rcases h2 with ⟨g2, rfl, rfl⟩ | ⟨p0x, p1x, hb0x, hb1x, eq0x, eq1x, h40x, -⟩
    · exact ⟨rfl, _, _, _, _, _, hI⟩
    · exact absurd ⟨⟨p0x, Nat.zero_le _, hb0x, eq0x⟩, ⟨p1x, Nat.zero_le _, hb1x, eq1x⟩, h40x⟩ g1
  · refine ⟨_, rfl, _, c_X6_row l G M1 x y z, fun v2 M2 h2 => ?_⟩
    rcases h2 with ⟨g2, -⟩ | ⟨p0x, p1x, hb0x, hb1x, eq0x, eq1x, h40x, ⟨g4, rfl, hr⟩ | ⟨s2, hs2, eqs2, -⟩⟩
    · exact absurd ⟨⟨p0, Nat.zero_le _, hb0, eq0⟩, ⟨p1, Nat.zero_le _, hb1, eq1⟩, h40⟩ g2
    · exact ⟨rfl, _, _, _, _, _, by rw [hr, e1]; exact hI.note _⟩
    · rw [eqs2] at g3
      exact absurd g3 (nI_pos (by omega))
  · refine ⟨_, rfl, _, c_X6_row l G M1 x y z, fun v2 M2 h2 => ?_⟩
    rcases h2 with ⟨g2, -⟩ | ⟨p0x, p1x, hb0x, hb1x, eq0x, eq1x, h40x, ⟨g4, -⟩ | ⟨s2, hs2, eqs2, rfl, hr⟩⟩
    · exact absurd ⟨⟨p0, Nat.zero_le _, hb0, eq0⟩, ⟨p1, Nat.zero_le _, hb1, eq1⟩, h40⟩ g2
    · rw [eqs] at g4
      exact absurd g4 (nI_pos (by omega))
    · obtain rfl : p0 = p0x := (nI_eq (by omega) (by omega)).mp (eq0.symm.trans eq0x)
      obtain rfl : p1 = p1x := (nI_eq (by omega) (by omega)).mp (eq1.symm.trans eq1x)
      obtain rfl : s = s2 := (nI_eq (by omega) (by omega)).mp (eqs.symm.trans eqs2)
      refine ⟨rfl, n, a, b, t, w, ?_⟩
      have q1 : ∀ q, q < 45 → q ≠ 14 → M1 q = M q := fun q z1 z2 => by rw [e1, mset_ne _ _ _ z2, setA_ne _ _ (by omega), mset_ne _ _ _ (by omega), mset_ne _ _ _ (by omega)]
      have q2 : ∀ q, 45 ≤ q → q ≠ 45 + p0 → q ≠ 53 + p0 → M1 q = M q := fun q z1 z2 z3 => by rw [e1, mset_ne _ _ _ (by omega), setA_ne _ _ z3, mset_ne _ _ _ z2, mset_ne _ _ _ z2]
      have q14 : M1 14 = upd (M 14) 11 (nI 0) := by rw [e1, mset_eq, setA_ne _ _ (by omega), mset_ne _ _ _ (by omega), mset_ne _ _ _ (by omega)]
      have q45 : M1 (45 + p0) = upd (upd (M (45 + p0)) 1 (nI p1)) 2 (nI s) := by rw [e1, mset_ne _ _ _ (by omega), setA_ne _ _ (by omega), mset_eq, mset_eq]
      have q53 : M1 (53 + p0) = pt (M (53 + p0)) (fun _ => nI 0) 40 := by rw [e1, mset_ne _ _ _ (by omega), setA_eq]
      have r1 : M2 1 = upd (M 1) p0 (nI p1) := by rw [hr, ← q1 1 (by omega) (by omega)]; rfl
      have r2 : M2 2 = upd (M 2) p0 (nI s) := by rw [hr, ← q1 2 (by omega) (by omega)]; rfl
      have r3 : M2 3 = fb_put (M 3) (fun _ => nI 0) (40 * p0) 40 := by rw [hr, ← q1 3 (by omega) (by omega)]; rfl
      have r0 : M2 0 = upd (M 0) 3 (nI 0) := by rw [hr, ← q1 0 (by omega) (by omega)]; rfl
      have rq : ∀ q, q ≠ 0 → q ≠ 1 → q ≠ 2 → q ≠ 3 → M2 q = M1 q := fun q z0 z1 z2 z3 => by rw [hr, rowM, mset_ne _ _ _ z0, setA_ne _ _ z3, mset_ne _ _ _ z2, mset_ne _ _ _ z1]
      refine hI.rows (nI 0) (hW.one (r := p0) (fun k hk hne => ⟨?_, ?_, ?_, ?_, fun i hi => ?_⟩) (fun _ => Or.inr ⟨s, p1, hs, hb1, ?_, ?_, ?_, ?_, fun i hi => ?_⟩)) (fun q z0 z1 z2 z3 z5 z14 z => ?_) (fun j hj => ?_) (fun j hj => ?_) ?_ ?_
      · rw [r1, pk_un hne]
      · rw [r2, pk_un hne]
      · rw [rq _ (by omega) (by omega) (by omega) (by omega), q2 _ (by omega) (by omega) (by omega)]
      · rw [rq _ (by omega) (by omega) (by omega) (by omega), q2 _ (by omega) (by omega) (by omega)]
      · rw [r3, fb_put_out (by omega)]
      · rw [r2, pk_us]
      · rw [rq _ (by omega) (by omega) (by omega) (by omega), q45, pk_us]
      · rw [r1, pk_us]
      · rw [rq _ (by omega) (by omega) (by omega) (by omega), q45, pk_un (by decide), pk_us]
      · rw [rq _ (by omega) (by omega) (by omega) (by omega), q53, r3, fb_put_in (by omega) (by omega)]
        exact if_pos hi
      · rw [rq q z0 z1 z2 z3]
        rcases z with z | z
        · exact q1 q z z14
        · exact q2 q (by omega) (by omega) (by omega)
      · rw [r0, pk_un hj]
      · rw [rq 14 (by decide) (by decide) (by decide) (by decide), q14, pk_un hj]
      · rw [r0, pk_us]
      · rw [rq 14 (by decide) (by decide) (by decide) (by decide), q14, pk_us]
set_option maxHeartbeats 4000000 in
theorem s_drop (l : Launch) (G : Gx) (M : Mem) (x : Int32) (h : Inv M) : LwS (Con l G yX5_drop cX5_drop 2 (some .int) 2 42 [.ref (gA G 14), .int x] M) (fun M1 => Con l G yX6_drop cX6_drop 3 (some .int) 2 45 [.ref (gA G 0), .int x] M1) := by
  obtain ⟨n, a, b, t, w, hI⟩ := h
  obtain ⟨⟨hm, hR, ht⟩, hW, hT, h4, hH, hG, hX, hE⟩ := id hI
  have hn := hR.2.1
  have hn6 := hR.1
  refine ⟨_, c_X5_drop l G M x, fun v M1 h1 => ?_⟩
  rcases h1 with ⟨g1, rfl, e1⟩ | ⟨p0, hb0, eq0, ⟨g3, rfl, e1⟩ | ⟨g3, rfl, e1⟩⟩
  · obtain rfl : M = M1 := e1.symm
    refine ⟨_, rfl, _, c_X6_drop l G M x (hz_of hW rfl), fun v2 M2 h2 => ?_⟩
    rcases h2 with ⟨g2, rfl, rfl⟩ | ⟨p0x, hb0x, eq0x, -⟩
    · exact ⟨rfl, _, _, _, _, _, hI⟩
    · exact absurd ⟨p0x, Nat.zero_le _, hb0x, eq0x⟩ g1
  · have e2 : M1 2 = M 2 := by rw [e1, mset_ne _ _ _ (by decide)]
    refine ⟨_, rfl, _, c_X6_drop l G M1 x (hz_of hW e2), fun v2 M2 h2 => ?_⟩
    rcases h2 with ⟨g2, -⟩ | ⟨p0x, hb0x, eq0x, ⟨g4, rfl, hr⟩ | ⟨s, hs, eqs, -⟩⟩
    · exact absurd ⟨p0, Nat.zero_le _, hb0, eq0⟩ g2
    · exact ⟨rfl, _, _, _, _, _, by rw [hr, e1]; exact hI.note _⟩
    · obtain rfl : p0 = p0x := (nI_eq (by omega) (by omega)).mp (eq0.symm.trans eq0x)
      have := (row_miss hW hb0).mpr g3
      rw [← e2, eqs] at this
      exact absurd this (nI_pos (by omega))
  · have q1 : ∀ q, q < 45 → q ≠ 14 → M1 q = M q := fun q z1 z2 => by rw [e1, mset_ne _ _ _ z2, mset_ne _ _ _ (by omega)]
    refine ⟨_, rfl, _, c_X6_drop l G M1 x (hz_of hW (q1 2 (by omega) (by omega))), fun v2 M2 h2 => ?_⟩
    rcases h2 with ⟨g2, -⟩ | ⟨p0x, hb0x, eq0x, ⟨g4, -⟩ | ⟨s, hs, eqs, rfl, hr⟩⟩
    · exact absurd ⟨p0, Nat.zero_le _, hb0, eq0⟩ g2
    · obtain rfl : p0 = p0x := (nI_eq (by omega) (by omega)).mp (eq0.symm.trans eq0x)
      rw [q1 2 (by omega) (by omega)] at g4
      exact absurd ((row_miss hW hb0).mp g4) g3
    · obtain rfl : p0 = p0x := (nI_eq (by omega) (by omega)).mp (eq0.symm.trans eq0x)
      rw [q1 2 (by omega) (by omega)] at eqs
      obtain ⟨s9, l9, y1, y2, y3, y4, y5, y6, y7⟩ := (hW p0 hb0).resolve_left (fun z => g3 z.2)
      have q2 : ∀ q, 45 ≤ q → q ≠ 45 + p0 → M1 q = M q := fun q z1 z2 => by rw [e1, mset_ne _ _ _ (by omega), mset_ne _ _ _ z2]
      have q14 : M1 14 = upd (M 14) 11 (nI 0) := by rw [e1, mset_eq, mset_ne _ _ _ (by omega)]
      have q45 : M1 (45 + p0) = upd (M (45 + p0)) 1 (-1) := by rw [e1, mset_ne _ _ _ (by omega), mset_eq]
      have r2 : M2 2 = upd (M 2) p0 (-1) := by rw [hr, ← q1 2 (by omega) (by omega)]; rfl
      have r0 : M2 0 = upd (M 0) 3 (nI 0) := by rw [hr, ← q1 0 (by omega) (by omega)]; rfl
      have rq : ∀ q, q ≠ 0 → q ≠ 2 → M2 q = M1 q := fun q z0 z2 => by rw [hr, mset_ne _ _ _ z0, mset_ne _ _ _ z2]
      refine ⟨by rw [y4, ← y3, eqs], n, a, b, t, w, ?_⟩
      refine hI.rows (nI 0) (hW.one (r := p0) (fun k hk hne => ⟨?_, ?_, ?_, ?_, fun i hi => ?_⟩) (fun _ => Or.inl ⟨?_, ?_⟩)) (fun q z0 z1 z2 z3 z5 z14 z => ?_) (fun j hj => ?_) (fun j hj => ?_) ?_ ?_
      · rw [rq _ (by decide) (by decide), q1 _ (by omega) (by omega)]
      · rw [r2, pk_un hne]
      · rw [rq _ (by omega) (by omega), q2 _ (by omega) (by omega)]
      · rw [rq _ (by omega) (by omega), q2 _ (by omega) (by omega)]
      · rw [rq _ (by decide) (by decide), q1 _ (by omega) (by omega)]
      · rw [r2, pk_us]; decide
      · rw [rq _ (by omega) (by omega), q45, pk_us]
      · rw [rq q z0 z2]
        rcases z with z | z
        · exact q1 q z z14
        · exact q2 q (by omega) (by omega)
      · rw [r0, pk_un hj]
      · rw [rq 14 (by decide) (by decide), q14, pk_un hj]
      · rw [r0, pk_us]
      · rw [rq 14 (by decide) (by decide), q14, pk_us]
set_option maxHeartbeats 4000000 in
theorem s_set (l : Launch) (G : Gx) (M : Mem) (x i u : Int32) (h : Inv M) : LwS (Con l G yX5_set cX5_set 5 (some .int) 2 45 [.ref (gA G 14), .int x, .int i, .int u] M) (fun M1 => Con l G yX6_set cX6_set 4 (some .int) 2 45 [.ref (gA G 0), .int x, .int i, .int u] M1) := by
  obtain ⟨n, a, b, t, w, hI⟩ := h
  obtain ⟨⟨hm, hR, ht⟩, hW, hT, h4, hH, hG, hX, hE⟩ := id hI
  have hn := hR.2.1
  have hn6 := hR.1
  refine ⟨_, c_X5_set l G M x i u hW, fun v M1 h1 => ?_⟩
  rcases h1 with ⟨g1, rfl, e1⟩ | ⟨p0, c, hb0, eq0, hL, ⟨hc0, rfl, e1⟩ | ⟨hc0, q, hq40, eqi, rfl, e1⟩⟩
  · obtain rfl : M = M1 := e1.symm
    refine ⟨_, rfl, _, c_X6_set l G M x i u (hz_of hW rfl), fun v2 M2 h2 => ?_⟩
    rcases h2 with ⟨g2, rfl, rfl⟩ | ⟨p0x, cx, hb0x, eq0x, -⟩
    · exact ⟨rfl, _, _, _, _, _, hI⟩
    · exact absurd ⟨p0x, Nat.zero_le _, hb0x, eq0x⟩ g1
  · have e2 : M1 2 = M 2 := by rw [e1, mset_ne _ _ _ (by decide)]
    refine ⟨_, rfl, _, c_X6_set l G M1 x i u (hz_of hW e2), fun v2 M2 h2 => ?_⟩
    rcases h2 with ⟨g2, -⟩ | ⟨p0x, cx, hb0x, eq0x, hLx, ⟨hc0x, rfl, hr⟩ | ⟨hc0x, -⟩⟩
    · exact absurd ⟨p0, Nat.zero_le _, hb0, eq0⟩ g2
    · obtain rfl : p0 = p0x := (nI_eq (by omega) (by omega)).mp (eq0.symm.trans eq0x)
      rw [e2] at hLx
      obtain rfl := LC_u hL hLx
      exact ⟨rfl, _, _, _, _, _, by rw [hr, e1]; exact hI.note _⟩
    · obtain rfl : p0 = p0x := (nI_eq (by omega) (by omega)).mp (eq0.symm.trans eq0x)
      rw [e2] at hLx
      exact absurd ((LC_u hL hLx).trans hc0x) hc0
  · have q1 : ∀ q, q < 45 → q ≠ 14 → M1 q = M q := fun q z1 z2 => by rw [e1, mset_ne _ _ _ z2, mset_ne _ _ _ (by omega)]
    refine ⟨_, rfl, _, c_X6_set l G M1 x i u (hz_of hW (q1 2 (by omega) (by omega))), fun v2 M2 h2 => ?_⟩
    rcases h2 with ⟨g2, -⟩ | ⟨p0x, cx, hb0x, eq0x, hLx, ⟨hc0x, -⟩ | ⟨hc0x, q9, hq940, eqi9, rfl, hr⟩⟩
    · exact absurd ⟨p0, Nat.zero_le _, hb0, eq0⟩ g2
    · obtain rfl : p0 = p0x := (nI_eq (by omega) (by omega)).mp (eq0.symm.trans eq0x)
      rw [q1 2 (by omega) (by omega)] at hLx
      exact absurd ((LC_u hL hLx).symm.trans hc0) hc0x
    · obtain rfl : p0 = p0x := (nI_eq (by omega) (by omega)).mp (eq0.symm.trans eq0x)
      obtain rfl : q = q9 := (nI_eq (by omega) (by omega)).mp (eqi.symm.trans eqi9)
      rw [hc0] at hL
      obtain ⟨s8, p8, y8, y80, -, -⟩ := LC_0 hL
      obtain ⟨s9, l9, y1, y2, y3, y4, y5, y6, y7⟩ := (hW p0 hb0).resolve_left (fun z => by rw [y8] at z; exact nI_pos (by omega) z.1)
      have el : M1 1 p0 = M (45 + p0) 1 := by rw [q1 1 (by omega) (by omega), y5, y6]
      rw [el] at hr ⊢
      have q2 : ∀ q, 45 ≤ q → q ≠ 53 + p0 → M1 q = M q := fun q z1 z2 => by rw [e1, mset_ne _ _ _ (by omega), mset_ne _ _ _ z2]
      have q14 : M1 14 = upd (M 14) 11 (nI 0) := by rw [e1, mset_eq, mset_ne _ _ _ (by omega)]
      have q53 : M1 (53 + p0) = upd (M (53 + p0)) q (laneV (M (45 + p0) 1) u) := by rw [e1, mset_ne _ _ _ (by omega), mset_eq]
      have r3 : M2 3 = upd (M 3) (40 * p0 + q) (laneV (M (45 + p0) 1) u) := by rw [hr, ← q1 3 (by omega) (by omega)]; rfl
      have r0 : M2 0 = upd (M 0) 3 (nI 0) := by rw [hr, ← q1 0 (by omega) (by omega)]; rfl
      have rq : ∀ q, q ≠ 0 → q ≠ 3 → M2 q = M1 q := fun q z0 z2 => by rw [hr, mset_ne _ _ _ z0, mset_ne _ _ _ z2]
      refine ⟨rfl, n, a, b, t, w, ?_⟩
      refine hI.rows (nI 0) (hW.one (r := p0) (fun k hk hne => ⟨?_, ?_, ?_, ?_, fun i hi => ?_⟩) (fun _ => Or.inr ⟨s9, l9, y1, y2, ?_, ?_, ?_, ?_, fun i hi => ?_⟩)) (fun q z0 z1 z2 z3 z5 z14 z => ?_) (fun j hj => ?_) (fun j hj => ?_) ?_ ?_
      · rw [rq _ (by decide) (by decide), q1 _ (by omega) (by omega)]
      · rw [rq _ (by decide) (by decide), q1 _ (by omega) (by omega)]
      · rw [rq _ (by omega) (by omega), q2 _ (by omega) (by omega)]
      · rw [rq _ (by omega) (by omega), q2 _ (by omega) (by omega)]
      · rw [r3, pk_un (by omega)]
      · rw [rq _ (by decide) (by decide), q1 _ (by omega) (by omega)]; exact y3
      · rw [rq _ (by omega) (by omega), q2 _ (by omega) (by omega)]; exact y4
      · rw [rq _ (by decide) (by decide), q1 _ (by omega) (by omega)]; exact y5
      · rw [rq _ (by omega) (by omega), q2 _ (by omega) (by omega)]; exact y6
      · rw [rq _ (by omega) (by omega), q53, r3]
        by_cases e : i = q
        · subst e; rw [pk_us, pk_us]
        · rw [pk_un e, pk_un (by omega)]; exact y7 i hi
      · rw [rq q z0 z3]
        rcases z with z | z
        · exact q1 q z z14
        · exact q2 q (by omega) (by omega)
      · rw [r0, pk_un hj]
      · rw [rq 14 (by decide) (by decide), q14, pk_un hj]
      · rw [r0, pk_us]
      · rw [rq 14 (by decide) (by decide), q14, pk_us]
