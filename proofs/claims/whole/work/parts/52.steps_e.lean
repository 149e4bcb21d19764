set_option maxHeartbeats 4000000 in
theorem s_copy (l : Launch) (G : Gx) (M : Mem) (x i y j o : Int32) (h : Inv M) : LwS (Con l G yX5_copy cX5_copy 8 (some .int) 2 60 [.ref (gA G 14), .int x, .int i, .int y, .int j, .int o] M) (fun M1 => Con l G yX6_copy cX6_copy 7 (some .int) 2 45 [.ref (gA G 0), .int x, .int i, .int y, .int j, .int o] M1) := by
  obtain ⟨n, a, b, t, w, hI⟩ := h
  obtain ⟨⟨hm, hR, ht⟩, hW, hT, h4, hH, hG, hX, hE⟩ := id hI
  have hn := hR.2.1
  have hn6 := hR.1
  refine ⟨_, c_X5_copy l G M x i y j o hW, fun v M1 h1 => ?_⟩
  rcases h1 with ⟨g1, rfl, e1⟩ | ⟨p0, p1, hb0, hb1, eq0, eq1, ⟨g3, rfl, e1⟩ | ⟨g3, ⟨g4, rfl, e1⟩ | ⟨g4, ⟨g5, rfl, e1⟩ | ⟨g5, g6, p, q, m, hpm, hqm, ep, eqq, em, rfl, e1⟩⟩⟩⟩
  · obtain rfl : M = M1 := e1.symm
    refine ⟨_, rfl, _, c_X6_copy l G M x i y j o (hz_of hW rfl), fun v2 M2 h2 => ?_⟩
    rcases h2 with ⟨g2, rfl, rfl⟩ | ⟨p0x, p1x, hb0x, hb1x, eq0x, eq1x, -⟩
    · exact ⟨rfl, _, _, _, _, _, hI⟩
    · exact absurd ⟨⟨p0x, Nat.zero_le _, hb0x, eq0x⟩, ⟨p1x, Nat.zero_le _, hb1x, eq1x⟩⟩ g1
  · have q1 : ∀ q, q < 45 → q ≠ 14 → M1 q = M q := fun q z1 z2 => by rw [e1, mset_ne _ _ _ z2]
    have g7 : M 2 p0 < 0 ∨ M 2 p1 < 0 := g3.imp (row_miss hW hb0).mpr (row_miss hW hb1).mpr
    refine ⟨_, rfl, _, c_X6_copy l G M1 x i y j o (hz_of hW (q1 2 (by omega) (by omega))), fun v2 M2 h2 => ?_⟩
    rcases h2 with ⟨g2, rfl, hr⟩ | ⟨p0x, p1x, hb0x, hb1x, eq0x, eq1x, ⟨y1, rfl, hr⟩ | ⟨s, tt, hs, htt, es, et, ⟨y2, rfl, hr⟩ | ⟨y2, ⟨y3, rfl, hr⟩ | ⟨m9, p9, q9, em, ep, eqq, hp9, hq9, rfl, hr⟩⟩⟩⟩
    · exact absurd ⟨⟨p0, Nat.zero_le _, hb0, eq0⟩, ⟨p1, Nat.zero_le _, hb1, eq1⟩⟩ g2
    · exact ⟨rfl, _, _, _, _, _, by rw [hr, e1]; exact hI.note _⟩
    · obtain rfl : p0 = p0x := (nI_eq (by omega) (by omega)).mp (eq0.symm.trans eq0x)
      obtain rfl : p1 = p1x := (nI_eq (by omega) (by omega)).mp (eq1.symm.trans eq1x)
      rw [q1 2 (by omega) (by omega)] at es et
      rw [es, et] at g7
      exact absurd g7 (fun z => z.elim (nI_pos (by omega)) (nI_pos (by omega)))
    · obtain rfl : p0 = p0x := (nI_eq (by omega) (by omega)).mp (eq0.symm.trans eq0x)
      obtain rfl : p1 = p1x := (nI_eq (by omega) (by omega)).mp (eq1.symm.trans eq1x)
      rw [q1 2 (by omega) (by omega)] at es et
      rw [es, et] at g7
      exact absurd g7 (fun z => z.elim (nI_pos (by omega)) (nI_pos (by omega)))
    · obtain rfl : p0 = p0x := (nI_eq (by omega) (by omega)).mp (eq0.symm.trans eq0x)
      obtain rfl : p1 = p1x := (nI_eq (by omega) (by omega)).mp (eq1.symm.trans eq1x)
      rw [q1 2 (by omega) (by omega)] at es et
      rw [es, et] at g7
      exact absurd g7 (fun z => z.elim (nI_pos (by omega)) (nI_pos (by omega)))
  · have q1 : ∀ q, q < 45 → q ≠ 14 → M1 q = M q := fun q z1 z2 => by rw [e1, mset_ne _ _ _ z2]
    have g7 : ¬ (M 2 p0 < 0 ∨ M 2 p1 < 0) := fun z => g3 (z.imp (row_miss hW hb0).mp (row_miss hW hb1).mp)
    obtain ⟨s1, l1, a1, a2, a3, a4, a5, a6, a7⟩ := (hW p0 hb0).resolve_left (fun z => g3 (Or.inl z.2))
    obtain ⟨s2, l2, b1, b2, b3, b4, b5, b6, b7⟩ := (hW p1 hb1).resolve_left (fun z => g3 (Or.inr z.2))
    refine ⟨_, rfl, _, c_X6_copy l G M1 x i y j o (hz_of hW (q1 2 (by omega) (by omega))), fun v2 M2 h2 => ?_⟩
    rcases h2 with ⟨g2, rfl, hr⟩ | ⟨p0x, p1x, hb0x, hb1x, eq0x, eq1x, ⟨y1, rfl, hr⟩ | ⟨s, tt, hs, htt, es, et, ⟨y2, rfl, hr⟩ | ⟨y2, ⟨y3, rfl, hr⟩ | ⟨m9, p9, q9, em, ep, eqq, hp9, hq9, rfl, hr⟩⟩⟩⟩
    · exact absurd ⟨⟨p0, Nat.zero_le _, hb0, eq0⟩, ⟨p1, Nat.zero_le _, hb1, eq1⟩⟩ g2
    · obtain rfl : p0 = p0x := (nI_eq (by omega) (by omega)).mp (eq0.symm.trans eq0x)
      obtain rfl : p1 = p1x := (nI_eq (by omega) (by omega)).mp (eq1.symm.trans eq1x)
      rw [q1 2 (by omega) (by omega)] at y1
      exact absurd y1 g7
    · exact ⟨rfl, _, _, _, _, _, by rw [hr, e1]; exact hI.note _⟩
    · obtain rfl : p0 = p0x := (nI_eq (by omega) (by omega)).mp (eq0.symm.trans eq0x)
      obtain rfl : p1 = p1x := (nI_eq (by omega) (by omega)).mp (eq1.symm.trans eq1x)
      rw [q1 2 (by omega) (by omega)] at es et
      rw [q1 1 (by omega) (by omega), a5, b5, ← a6, ← b6] at y2
      exact absurd y2 g4
    · obtain rfl : p0 = p0x := (nI_eq (by omega) (by omega)).mp (eq0.symm.trans eq0x)
      obtain rfl : p1 = p1x := (nI_eq (by omega) (by omega)).mp (eq1.symm.trans eq1x)
      rw [q1 2 (by omega) (by omega)] at es et
      rw [q1 1 (by omega) (by omega), a5, b5, ← a6, ← b6] at y2
      exact absurd y2 g4
  · have q1 : ∀ q, q < 45 → q ≠ 14 → M1 q = M q := fun q z1 z2 => by rw [e1, mset_ne _ _ _ z2]
    have g7 : ¬ (M 2 p0 < 0 ∨ M 2 p1 < 0) := fun z => g3 (z.imp (row_miss hW hb0).mp (row_miss hW hb1).mp)
    obtain ⟨s1, l1, a1, a2, a3, a4, a5, a6, a7⟩ := (hW p0 hb0).resolve_left (fun z => g3 (Or.inl z.2))
    obtain ⟨s2, l2, b1, b2, b3, b4, b5, b6, b7⟩ := (hW p1 hb1).resolve_left (fun z => g3 (Or.inr z.2))
    refine ⟨_, rfl, _, c_X6_copy l G M1 x i y j o (hz_of hW (q1 2 (by omega) (by omega))), fun v2 M2 h2 => ?_⟩
    rcases h2 with ⟨g2, rfl, hr⟩ | ⟨p0x, p1x, hb0x, hb1x, eq0x, eq1x, ⟨y1, rfl, hr⟩ | ⟨s, tt, hs, htt, es, et, ⟨y2, rfl, hr⟩ | ⟨y2, ⟨y3, rfl, hr⟩ | ⟨m9, p9, q9, em, ep, eqq, hp9, hq9, rfl, hr⟩⟩⟩⟩
    · exact absurd ⟨⟨p0, Nat.zero_le _, hb0, eq0⟩, ⟨p1, Nat.zero_le _, hb1, eq1⟩⟩ g2
    · obtain rfl : p0 = p0x := (nI_eq (by omega) (by omega)).mp (eq0.symm.trans eq0x)
      obtain rfl : p1 = p1x := (nI_eq (by omega) (by omega)).mp (eq1.symm.trans eq1x)
      rw [q1 2 (by omega) (by omega)] at y1
      exact absurd y1 g7
    · obtain rfl : p0 = p0x := (nI_eq (by omega) (by omega)).mp (eq0.symm.trans eq0x)
      obtain rfl : p1 = p1x := (nI_eq (by omega) (by omega)).mp (eq1.symm.trans eq1x)
      rw [q1 2 (by omega) (by omega)] at es et
      rw [q1 1 (by omega) (by omega), a5, b5, ← a6, ← b6] at y2
      exact absurd g4 y2
    · exact ⟨rfl, _, _, _, _, _, by rw [hr, e1]; exact hI.note _⟩
    · obtain rfl : p0 = p0x := (nI_eq (by omega) (by omega)).mp (eq0.symm.trans eq0x)
      obtain rfl : p1 = p1x := (nI_eq (by omega) (by omega)).mp (eq1.symm.trans eq1x)
      rw [q1 2 (by omega) (by omega)] at es et
      obtain rfl : s1 = s := (nI_eq (by omega) (by omega)).mp (a3.symm.trans es)
      obtain rfl : s2 = tt := (nI_eq (by omega) (by omega)).mp (b3.symm.trans et)
      rw [a4, b4] at g5
      exact absurd ⟨(hold_iff a1).mpr ⟨p9, m9, ep, em, hp9⟩, (hold_iff b1).mpr ⟨q9, m9, eqq, em, hq9⟩⟩ g5
  · have q1 : ∀ q, q < 45 → q ≠ 14 → M1 q = M q := fun q z1 z2 => by rw [e1, mset_ne _ _ _ z2, setA_ne _ _ (by omega)]
    have g7 : ¬ (M 2 p0 < 0 ∨ M 2 p1 < 0) := fun z => g3 (z.imp (row_miss hW hb0).mp (row_miss hW hb1).mp)
    obtain ⟨s1, l1, a1, a2, a3, a4, a5, a6, a7⟩ := (hW p0 hb0).resolve_left (fun z => g3 (Or.inl z.2))
    obtain ⟨s2, l2, b1, b2, b3, b4, b5, b6, b7⟩ := (hW p1 hb1).resolve_left (fun z => g3 (Or.inr z.2))
    refine ⟨_, rfl, _, c_X6_copy l G M1 x i y j o (hz_of hW (q1 2 (by omega) (by omega))), fun v2 M2 h2 => ?_⟩
    rcases h2 with ⟨g2, rfl, hr⟩ | ⟨p0x, p1x, hb0x, hb1x, eq0x, eq1x, ⟨y1, rfl, hr⟩ | ⟨s, tt, hs, htt, es, et, ⟨y2, rfl, hr⟩ | ⟨y2, ⟨y3, rfl, hr⟩ | ⟨m9, p9, q9, em9, ep9, eqq9, hp9, hq9, rfl, hr⟩⟩⟩⟩
    · exact absurd ⟨⟨p0, Nat.zero_le _, hb0, eq0⟩, ⟨p1, Nat.zero_le _, hb1, eq1⟩⟩ g2
    · obtain rfl : p0 = p0x := (nI_eq (by omega) (by omega)).mp (eq0.symm.trans eq0x)
      obtain rfl : p1 = p1x := (nI_eq (by omega) (by omega)).mp (eq1.symm.trans eq1x)
      rw [q1 2 (by omega) (by omega)] at y1
      exact absurd y1 g7
    · obtain rfl : p0 = p0x := (nI_eq (by omega) (by omega)).mp (eq0.symm.trans eq0x)
      obtain rfl : p1 = p1x := (nI_eq (by omega) (by omega)).mp (eq1.symm.trans eq1x)
      rw [q1 2 (by omega) (by omega)] at es et
      rw [q1 1 (by omega) (by omega), a5, b5, ← a6, ← b6] at y2
      exact absurd g4 y2
    · obtain rfl : p0 = p0x := (nI_eq (by omega) (by omega)).mp (eq0.symm.trans eq0x)
      obtain rfl : p1 = p1x := (nI_eq (by omega) (by omega)).mp (eq1.symm.trans eq1x)
      rw [q1 2 (by omega) (by omega)] at es et
      obtain rfl : s1 = s := (nI_eq (by omega) (by omega)).mp (a3.symm.trans es)
      obtain rfl : s2 = tt := (nI_eq (by omega) (by omega)).mp (b3.symm.trans et)
      rw [a4] at g5
      rw [b4] at g6
      obtain ⟨p7, m7, c1, c2, c3⟩ := (hold_iff a1).mp g5
      obtain ⟨q7, m8, d1, d2, d3⟩ := (hold_iff b1).mp g6
      obtain rfl : m7 = m8 := (nI_eq (by omega) (by omega)).mp (c2.symm.trans d2)
      exact absurd ⟨m7, p7, q7, c2, c1, d1, c3, d3⟩ y3
    · obtain rfl : p0 = p0x := (nI_eq (by omega) (by omega)).mp (eq0.symm.trans eq0x)
      obtain rfl : p1 = p1x := (nI_eq (by omega) (by omega)).mp (eq1.symm.trans eq1x)
      rw [q1 2 (by omega) (by omega)] at es et
      obtain rfl : p = p9 := (nI_eq (by omega) (by omega)).mp (ep.symm.trans ep9)
      obtain rfl : q = q9 := (nI_eq (by omega) (by omega)).mp (eqq.symm.trans eqq9)
      obtain rfl : m = m9 := (nI_eq (by omega) (by omega)).mp (em.symm.trans em9)
      have q2 : ∀ q, 45 ≤ q → q ≠ 53 + p1 → M1 q = M q := fun q z1 z2 => by rw [e1, mset_ne _ _ _ (by omega), setA_ne _ _ z2]
      have q14 : M1 14 = upd (M 14) 11 (nI 0) := by rw [e1, mset_eq, setA_ne _ _ (by omega)]
      have q53 : M1 (53 + p1) = va_cpy (M (53 + p0)) (M (53 + p1)) p q m := by rw [e1, mset_ne _ _ _ (by omega), setA_eq]
      have r3 : M2 3 = fb_put (M 3) (pt (M1 5) (fun k => M 3 (40 * p0 + p + k)) m) (40 * p1 + q) m := by rw [hr, ← q1 3 (by omega) (by omega)]; rfl
      have r0 : M2 0 = upd (M 0) 3 (nI 0) := by rw [hr, ← q1 0 (by omega) (by omega)]; rfl
      have rq : ∀ q, q ≠ 0 → q ≠ 3 → q ≠ 5 → M2 q = M1 q := fun q z0 z2 z5 => by rw [hr, copyM, mset_ne _ _ _ z0, setA_ne _ _ z2, setA_ne _ _ z5]
      refine ⟨rfl, n, a, b, t, w, ?_⟩
      refine hI.rows (nI 0) (hW.one (r := p1) (fun k hk hne => ⟨?_, ?_, ?_, ?_, fun i hi => ?_⟩) (fun _ => Or.inr ⟨s2, l2, b1, b2, ?_, ?_, ?_, ?_, fun i hi => ?_⟩)) (fun q z0 z1 z2 z3 z5 z14 z => ?_) (fun j hj => ?_) (fun j hj => ?_) ?_ ?_
      · rw [rq _ (by decide) (by decide) (by decide), q1 _ (by omega) (by omega)]
      · rw [rq _ (by decide) (by decide) (by decide), q1 _ (by omega) (by omega)]
      · rw [rq _ (by omega) (by omega) (by omega), q2 _ (by omega) (by omega)]
      · rw [rq _ (by omega) (by omega) (by omega), q2 _ (by omega) (by omega)]
      · rw [r3, fb_put_out (by omega)]
      · rw [rq _ (by decide) (by decide) (by decide), q1 _ (by omega) (by omega)]; exact b3
      · rw [rq _ (by omega) (by omega) (by omega), q2 _ (by omega) (by omega)]; exact b4
      · rw [rq _ (by decide) (by decide) (by decide), q1 _ (by omega) (by omega)]; exact b5
      · rw [rq _ (by omega) (by omega) (by omega), q2 _ (by omega) (by omega)]; exact b6
      · rw [rq _ (by omega) (by omega) (by omega), q53, r3]
        by_cases z : q ≤ i ∧ i < q + m
        · rw [cpy_in z.1 z.2, fb_put_in (by omega) (by omega), a7 _ (by omega), show 40 * p1 + i - (40 * p1 + q) = i - q by omega]
          show _ = (if i - q < m then M 3 (40 * p0 + p + (i - q)) else M1 5 (i - q))
          rw [if_pos (by omega), Nat.add_assoc]
        · rw [cpy_out (by omega), fb_put_out (by omega)]; exact b7 i hi
      · rw [rq q z0 z3 z5]
        rcases z with z | z
        · exact q1 q z z14
        · exact q2 q (by omega) (by omega)
      · rw [r0, pk_un hj]
      · rw [rq 14 (by decide) (by decide) (by decide), q14, pk_un hj]
      · rw [r0, pk_us]
      · rw [rq 14 (by decide) (by decide) (by decide), q14, pk_us]
set_option maxHeartbeats 4000000 in
theorem s_feed (l : Launch) (G : Gx) (M : Mem) (x : Int32) (h : Inv M) : LwS (Con l G yX5_feed cX5_feed 2 (some .int) 1 22 [.ref (gA G 14), .int x] M) (fun M1 => Con l G yX6_feed cX6_feed 2 (some .int) 1 25 [.ref (gA G 0), .int x] M1) := by
  obtain ⟨n, a, b, t, w, hI⟩ := h
  obtain ⟨⟨hm, hR, ht⟩, hW, hT, h4, hH, hG, hX, hE⟩ := id hI
  have hn := hR.2.1
  have hn6 := hR.1
  refine ⟨_, c_X5_feed l G M x b hT.2.1 hT.2.2.1, fun v M1 h1 => ?_⟩
  have hb120 := hT.2.2.1
  rcases h1 with ⟨g1, rfl, e1⟩ | ⟨p0, hb0, eq0, ⟨g3, rfl, e1⟩ | ⟨g3, rfl, e1⟩⟩
  · obtain rfl : M = M1 := e1.symm
    refine ⟨_, rfl, _, c_X6_feed l G M x b hT.1 hT.2.2.1, fun v2 M2 h2 => ?_⟩
    rcases h2 with ⟨g2, rfl, rfl⟩ | ⟨p0x, hb0x, eq0x, -⟩
    · exact ⟨rfl, _, _, _, _, _, hI⟩
    · exact absurd ⟨p0x, Nat.zero_le _, hb0x, eq0x⟩ g1
  · obtain rfl : M = M1 := e1.symm
    refine ⟨_, rfl, _, c_X6_feed l G M x b hT.1 hT.2.2.1, fun v2 M2 h2 => ?_⟩
    rcases h2 with ⟨g2, -⟩ | ⟨p0x, hb0x, eq0x, ⟨g4, rfl, rfl⟩ | ⟨g4, -⟩⟩
    · exact absurd ⟨p0, Nat.zero_le _, hb0, eq0⟩ g2
    · exact ⟨rfl, _, _, _, _, _, hI⟩
    · omega
  · have q1 : ∀ q, q ≠ 16 → q ≠ 17 → M1 q = M q := fun q z1 z2 => by rw [e1, mset_ne _ _ _ z1, mset_ne _ _ _ z2]
    refine ⟨_, rfl, _, c_X6_feed l G M1 x b (by rw [q1 0 (by decide) (by decide)]; exact hT.1) hT.2.2.1, fun v2 M2 h2 => ?_⟩
    rcases h2 with ⟨g2, -⟩ | ⟨p0x, hb0x, eq0x, ⟨g4, -⟩ | ⟨g4, rfl, hr⟩⟩
    · exact absurd ⟨p0, Nat.zero_le _, hb0, eq0⟩ g2
    · omega
    · obtain rfl : p0 = p0x := (nI_eq (by omega) (by omega)).mp (eq0.symm.trans eq0x)
      have q16 : M1 16 = upd (M 16) 1 (nI (b + 1)) := by rw [e1, mset_eq, mset_ne _ _ _ (by decide)]
      have q17 : M1 17 = upd (M 17) b (nI p0) := by rw [e1, mset_ne _ _ _ (by decide), mset_eq]
      have r0 : M2 0 = upd (M 0) 8 (nI (b + 1)) := by rw [hr, ← q1 0 (by decide) (by decide)]; rfl
      have r6 : M2 6 = upd (M 6) b (nI p0) := by rw [hr, ← q1 6 (by decide) (by decide)]; rfl
      have rq : ∀ q, q ≠ 0 → q ≠ 6 → M2 q = M1 q := fun q z0 z6 => by rw [hr, mset_ne _ _ _ z0, mset_ne _ _ _ z6]
      have e0 : ∀ j, j ≠ 8 → M2 0 j = M 0 j := fun j hj => by rw [r0, pk_un hj]
      have e : ∀ q, q ≠ 0 → q ≠ 6 → q ≠ 16 → q ≠ 17 → M2 q = M q := fun q z0 z6 z1 z2 => (rq q z0 z6).trans (q1 q z1 z2)
      obtain ⟨i1, i2, i3, i4, i5, i6, i7, i8⟩ := hI
      refine ⟨rfl, n, a, b + 1, t, w, i1.fr (e 4 (by decide) (by decide) (by decide) (by decide)) (e0 4 (by decide)) (fun q z1 z2 => e q (by omega) (by omega) (by omega) (by omega)),
        i2.fr (e 1 (by decide) (by decide) (by decide) (by decide)) (e 2 (by decide) (by decide) (by decide) (by decide)) (e 3 (by decide) (by decide) (by decide) (by decide)) (fun q z1 z2 => e q (by omega) (by omega) (by omega) (by omega)),
        ⟨by rw [r0, pk_us], by rw [rq 16 (by decide) (by decide), q16, pk_us], by omega, by rw [rq 17 (by decide) (by decide), q17, r6, i3.2.2.2.1], fun i hi => ?_⟩,
        i4.fr (by rw [e 14 (by decide) (by decide) (by decide) (by decide)]) (by rw [e 14 (by decide) (by decide) (by decide) (by decide)]) (e0 9 (by decide)) (e0 3 (by decide)),
        i5.fr (e0 19 (by decide)) (e 9 (by decide) (by decide) (by decide) (by decide)) (fun q z => e q (by omega) (by omega) (by omega) (by omega)),
        i6.fr (by rw [e 14 (by decide) (by decide) (by decide) (by decide)]) (e 11 (by decide) (by decide) (by decide) (by decide)) (e 12 (by decide) (by decide) (by decide) (by decide)) (fun q z1 z2 => e q (by omega) (by omega) (by omega) (by omega)),
        i7.fr (e0 24 (by decide)) (e 43 (by decide) (by decide) (by decide) (by decide)) (e 44 (by decide) (by decide) (by decide) (by decide)) (e 13 (by decide) (by decide) (by decide) (by decide)), i8⟩
      rw [rq 17 (by decide) (by decide), q17]
      by_cases z : i = b
      · subst z; rw [pk_us]; exact ⟨p0, by omega, rfl⟩
      · rw [pk_un z]; exact i3.2.2.2.2 i (by omega)
/-- another ministry is there: numbers S2, no acts kept -/
theorem Iv.new {M N : Mem} {n m a a2 b b2 t w : Nat} {S2 : Nat → Int32} (h : Iv M n a b t w) (hm1 : 0 < m) (hm : ms 18 m S2 N) (hR : Rg m S2) (h4 : N 4 = S2) (h04 : ¬ N 0 4 = 0) (h5 : I5 N a2) (h3 : I3 N b2)
    (e0 : ∀ j, j = 3 ∨ j = 9 ∨ j = 24 → N 0 j = M 0 j) (e14 : N 14 = M 14) (e : ∀ q, q ≠ 0 → q ≠ 4 → q ≠ 6 → q ≠ 7 → q ≠ 14 → q ≠ 16 → q ≠ 17 → q ≠ 40 → q < 18 ∨ 40 < q → q < 61 ∨ 84 < q → N q = M q) : Iv N m a2 b2 t w := by
  obtain ⟨i1, i2, i3, i4, i5, i6, i7, i8⟩ := h
  exact ⟨⟨by rw [h4]; exact hm, by rw [h4]; exact hR, ⟨fun z => absurd z h04, fun z => absurd z (by omega)⟩⟩,
    i2.fr (e 1 (by decide) (by decide) (by decide) (by decide) (by decide) (by decide) (by decide) (by decide) (by decide) (by decide)) (e 2 (by decide) (by decide) (by decide) (by decide) (by decide) (by decide) (by decide) (by decide) (by decide) (by decide)) (e 3 (by decide) (by decide) (by decide) (by decide) (by decide) (by decide) (by decide) (by decide) (by decide) (by decide)) (fun q z1 z2 => e q (by omega) (by omega) (by omega) (by omega) (by omega) (by omega) (by omega) (by omega) (by omega) (by omega)), h3,
    i4.fr (by rw [e14]) (by rw [e14]) (e0 9 (by omega)) (e0 3 (by omega)), h5,
    i6.fr (by rw [e14]) (e 11 (by decide) (by decide) (by decide) (by decide) (by decide) (by decide) (by decide) (by decide) (by decide) (by decide)) (e 12 (by decide) (by decide) (by decide) (by decide) (by decide) (by decide) (by decide) (by decide) (by decide) (by decide)) (fun q z1 z2 => e q (by omega) (by omega) (by omega) (by omega) (by omega) (by omega) (by omega) (by omega) (by omega) (by omega)),
    i7.fr (e0 24 (by omega)) (e 43 (by decide) (by decide) (by decide) (by decide) (by decide) (by decide) (by decide) (by decide) (by decide) (by decide)) (e 44 (by decide) (by decide) (by decide) (by decide) (by decide) (by decide) (by decide) (by decide) (by decide) (by decide)) (e 13 (by decide) (by decide) (by decide) (by decide) (by decide) (by decide) (by decide) (by decide) (by decide) (by decide)), fun _ => hm1⟩
set_option maxHeartbeats 4000000 in
theorem s_undo (l : Launch) (G : Gx) (M : Mem) (h : Inv M) : LwS (Con l G yX5_undo cX5_undo 1 (some .int) 3 102 [.ref (gA G 14)] M) (fun M1 => Con l G yX6_undo cX6_undo 2 (some .int) 0 0 [.ref (gA G 0)] M1) := by
  obtain ⟨n, a, b, t, w, hI⟩ := h
  obtain ⟨⟨hm, hR, ht⟩, hW, hT, h4, hH, hG, hX, hE⟩ := id hI
  have hn := hR.2.1
  have hn6 := hR.1
  refine ⟨_, c_X5_undo l G M (fun i k => M 9 (41 * i + k)) a hH.2, fun v M1 h1 => ?_⟩
  have ha19 := hH.1
  have ha24 : a ≤ 24 := by obtain ⟨o, z1, z2, -⟩ := hH.2; exact z2
  rcases h1 with ⟨z0, rfl, e1⟩ | ⟨z0, rfl, hk⟩
  · obtain rfl : M = M1 := e1.symm
    refine ⟨_, rfl, _, c_X6_undo l G M a ha19 ha24, fun v2 M2 h2 => ?_⟩
    rcases h2 with ⟨y0, rfl, rfl⟩ | ⟨y0, -⟩
    · exact ⟨rfl, _, _, _, _, _, hI⟩
    · omega
  · obtain ⟨hf, hs, m, hm1, hRm, hmm⟩ := hk
    have e0 : M1 0 = M 0 := hf 0 (by omega)
    refine ⟨_, rfl, _, c_X6_undo l G M1 a (by rw [e0]; exact ha19) ha24, fun v2 M2 h2 => ?_⟩
    rcases h2 with ⟨y0, -⟩ | ⟨y0, rfl, hr⟩
    · omega
    · have r4 : M2 4 = pt (M 4) (fun k => M 9 (41 * (a - 1) + k)) 41 := by rw [hr, ← hf 9 (by omega), ← hf 4 (by omega)]; rfl
      have r0 : M2 0 = upd (M 0) 19 (nI (a - 1)) := by rw [hr, ← e0]; rfl
      have rq : ∀ q, q ≠ 0 → q ≠ 4 → M2 q = M1 q := fun q z0 z4 => by rw [hr, undoM, setA_ne _ _ z4, mset_ne _ _ _ z0]
      have ek : ∀ k, k < 41 → pt (M 4) (fun k => M 9 (41 * (a - 1) + k)) 41 k = M 9 (41 * (a - 1) + k) := fun k hk => if_pos hk
      have h04 : ¬ M 0 4 = 0 := fun z => by have := ht.mp z; have := hE (Or.inl z0); omega
      refine ⟨rfl, m, a - 1, b, t, w, ?_⟩
      refine hI.new hm1 (ms_cong ek hRm.1 (hmm.fr (fun q z1 z2 => rq q (by omega) (by omega)))) (Rg_cong ek hRm) r4 (by rw [r0, pk_un (by decide)]; exact h04) ⟨by rw [r0, pk_us], ?_⟩ ?_ (fun j hj => by rw [r0, pk_un (by omega)]) (by rw [rq 14 (by decide) (by decide), hf 14 (by omega)]) (fun q z0 z4 z6 z7 z14 z16 z17 z40 z z2 => by rw [rq q z0 z4]; exact hf q (by omega))
      · rw [rq 9 (by decide) (by decide), hf 9 (by omega)]
        exact hs.fr (fun q z => rq q (by omega) (by omega))
      · exact hT.fr (by rw [r0, pk_un (by decide)]) (by rw [rq 16 (by decide) (by decide), hf 16 (by omega)]) (by rw [rq 6 (by decide) (by decide), hf 6 (by omega)]) (by rw [rq 17 (by decide) (by decide), hf 17 (by omega)])
theorem bit_k0 : ∀ w : Nat, w < 4 → ∀ k : Nat, k < 2 → decide ((nI w >>> (nI k &&& 31)) &&& nI 1 = 0) = !(w.testBit k) := by decide +kernel
theorem bit_k {w k : Nat} (hw : w < 4) (hk : k ≤ 1) : (nI w >>> (nI k &&& 31)) &&& nI 1 = 0 ↔ w.testBit k = false := by
  have h := bit_k0 w hw k (by omega)
  constructor
  · intro z
    rw [decide_eq_true z] at h
    cases hb : w.testBit k with
    | false => rfl
    | true => rw [hb] at h; exact absurd h (by decide)
  · intro z
    rw [z] at h
    exact of_decide_eq_true h
theorem bit_o : ∀ w : Nat, w < 4 → ∀ k : Nat, k < 2 → w ||| 2 ^ k < 4 ∧ 0 < w ||| 2 ^ k ∧ nI w ||| nI 1 <<< (nI k &&& 31) = nI (w ||| 2 ^ k) ∧ (w ||| 2 ^ k).testBit k = true ∧ ∀ j : Nat, j < 2 → j ≠ k → (w ||| 2 ^ k).testBit j = w.testBit j := by decide +kernel
set_option maxHeartbeats 4000000 in
theorem s_restore (l : Launch) (G : Gx) (M : Mem) (x : Int32) (h : Inv M) : LwS (Con l G yX5_restore cX5_restore 2 (some .int) 2 81 [.ref (gA G 14), .int x] M) (fun M1 => Con l G yX6_restore cX6_restore 3 (some .int) 1 25 [.ref (gA G 0), .int x] M1) := by
  obtain ⟨n, a, b, t, w, hI⟩ := h
  obtain ⟨⟨hm, hR, ht⟩, hW, hT, h4, hH, hG, hX, hE⟩ := id hI
  have hn := hR.2.1
  have hn6 := hR.1
  refine ⟨_, c_X5_restore l G M x, fun v M1 h1 => ?_⟩
  obtain ⟨hw4, h149, hGk⟩ := hG
  rcases h1 with ⟨g1, rfl, e1⟩ | ⟨p0, hb0, eq0, ⟨g3, rfl, e1⟩ | ⟨g3, rfl, e1⟩⟩
  · obtain rfl : M = M1 := e1.symm
    refine ⟨_, rfl, _, c_X6_restore l G M x, fun v2 M2 h2 => ?_⟩
    rcases h2 with ⟨g2, rfl, rfl⟩ | ⟨p0x, hb0x, eq0x, -⟩
    · exact ⟨rfl, _, _, _, _, _, hI⟩
    · exact absurd ⟨p0x, Nat.zero_le _, hb0x, eq0x⟩ g1
  · obtain rfl : M = M1 := e1.symm
    rw [h149, bit_k hw4 hb0] at g3
    have g5 := ((hGk p0 hb0).resolve_right (fun z => by rw [g3] at z; exact absurd z.1 (by decide))).2
    refine ⟨_, rfl, _, c_X6_restore l G M x, fun v2 M2 h2 => ?_⟩
    rcases h2 with ⟨g2, -⟩ | ⟨p0x, hb0x, eq0x, ⟨g4, rfl, rfl⟩ | ⟨g4, -⟩⟩
    · exact absurd ⟨p0, Nat.zero_le _, hb0, eq0⟩ g2
    · exact ⟨rfl, _, _, _, _, _, hI⟩
    · obtain rfl : p0 = p0x := (nI_eq (by omega) (by omega)).mp (eq0.symm.trans eq0x)
      exact absurd g5 g4
  · rw [h149, bit_k hw4 hb0] at g3
    obtain ⟨t1, t2, m, hm1, hRm, hcm⟩ := (hGk p0 hb0).resolve_left (fun z => g3 z.1)
    have q1 : ∀ q, q ≠ 40 → q < 18 ∨ 24 < q → M1 q = M q := fun q z1 z2 => by rw [e1, mset_ne _ _ _ z1, RA_fr _ _ _ (by omega)]
    have q40 : M1 40 = upd (M 40) 2 (nI 0) := by rw [e1, mset_eq, RA_fr _ _ _ (by omega)]
    refine ⟨_, rfl, _, c_X6_restore l G M1 x, fun v2 M2 h2 => ?_⟩
    rcases h2 with ⟨g2, -⟩ | ⟨p0x, hb0x, eq0x, ⟨g4, -⟩ | ⟨g4, rfl, hr⟩⟩
    · exact absurd ⟨p0, Nat.zero_le _, hb0, eq0⟩ g2
    · obtain rfl : p0 = p0x := (nI_eq (by omega) (by omega)).mp (eq0.symm.trans eq0x)
      rw [q1 11 (by decide) (by decide), t2] at g4
      exact absurd g4 (by decide)
    · obtain rfl : p0 = p0x := (nI_eq (by omega) (by omega)).mp (eq0.symm.trans eq0x)
      have r4 : M2 4 = pt (M 4) (fun z => M 12 (41 * p0 + z)) 41 := by rw [hr, ← q1 12 (by decide) (by decide), ← q1 4 (by decide) (by decide)]; rfl
      have r0 : M2 0 = upd (M 0) 19 (nI 0) := by rw [hr, ← q1 0 (by decide) (by decide)]; rfl
      have rq : ∀ q, q ≠ 0 → q ≠ 4 → M2 q = M1 q := fun q z0 z4 => by rw [hr, mset_ne _ _ _ z0, setA_ne _ _ z4]
      have ek : ∀ k, k < 41 → pt (M 4) (fun z => M 12 (41 * p0 + z)) 41 k = M 12 (41 * p0 + k) := fun k hk => if_pos hk
      have hw0 : 0 < w := Nat.pos_of_ne_zero (fun z => by rw [z, Nat.zero_testBit] at t1; exact absurd t1 (by decide))
      have h04 : ¬ M 0 4 = 0 := fun z => by have := ht.mp z; have := hE (Or.inr hw0); omega
      obtain ⟨o, z1, z2, z3, z4, -⟩ := hH.2
      have hmm : ms 18 m (fun z => M 12 (41 * p0 + z)) M2 := (cel_ms (RA_cel M 18 (M (85 + p0))) hcm hRm.1).fr (fun q z1 z2 => by rw [rq q (by omega) (by omega), e1, mset_ne _ _ _ (by omega)])
      refine ⟨rfl, m, 0, b, t, w, ?_⟩
      refine hI.new hm1 (ms_cong ek hRm.1 hmm) (Rg_cong ek hRm) r4 (by rw [r0, pk_un (by decide)]; exact h04) ⟨by rw [r0, pk_us], o, z1, by omega, by rw [rq 40 (by decide) (by decide), q40, pk_un (by decide)]; exact z3, by rw [rq 40 (by decide) (by decide), q40, pk_us], fun i hi => absurd hi (Nat.not_lt_zero i)⟩ ?_ (fun j hj => by rw [r0, pk_un (by omega)]) (by rw [rq 14 (by decide) (by decide), q1 14 (by decide) (by decide)]) (fun q z0 z4 z6 z7 z14 z16 z17 z40 z z2 => by rw [rq q z0 z4]; exact q1 q z40 (by omega))
      exact hT.fr (by rw [r0, pk_un (by decide)]) (by rw [rq 16 (by decide) (by decide), q1 16 (by decide) (by decide)]) (by rw [rq 6 (by decide) (by decide), q1 6 (by decide) (by decide)]) (by rw [rq 17 (by decide) (by decide), q1 17 (by decide) (by decide)])
set_option maxHeartbeats 4000000 in
theorem s_image (l : Launch) (G : Gx) (M : Mem) (x : Int32) (h : Inv M) : LwS (Con l G yX5_image cX5_image 2 (some .int) 2 81 [.ref (gA G 14), .int x] M) (fun M1 => Con l G yX6_image cX6_image 3 (some .int) 1 25 [.ref (gA G 0), .int x] M1) := by
  obtain ⟨n, a, b, t, w, hI⟩ := h
  obtain ⟨⟨hm, hR, ht⟩, hW, hT, h4, hH, hG, hX, hE⟩ := id hI
  have hn := hR.2.1
  have hn6 := hR.1
  refine ⟨_, c_X5_image l G M x n hm.1 hn6, fun v M1 h1 => ?_⟩
  obtain ⟨hw4, h149, hGk⟩ := hG
  rcases h1 with ⟨g1, rfl, e1⟩ | ⟨p0, hb0, eq0, ⟨g3, rfl, e1⟩ | ⟨g3, rfl, e1⟩⟩
  · obtain rfl : M = M1 := e1.symm
    refine ⟨_, rfl, _, c_X6_image l G M x n ht, fun v2 M2 h2 => ?_⟩
    rcases h2 with ⟨g2, rfl, rfl⟩ | ⟨p0x, hb0x, eq0x, -⟩
    · exact ⟨rfl, _, _, _, _, _, hI⟩
    · exact absurd ⟨p0x, Nat.zero_le _, hb0x, eq0x⟩ g1
  · obtain rfl : M = M1 := e1.symm
    refine ⟨_, rfl, _, c_X6_image l G M x n ht, fun v2 M2 h2 => ?_⟩
    rcases h2 with ⟨g2, -⟩ | ⟨p0x, hb0x, eq0x, ⟨g4, rfl, rfl⟩ | ⟨g4, -⟩⟩
    · exact absurd ⟨p0, Nat.zero_le _, hb0, eq0⟩ g2
    · exact ⟨rfl, _, _, _, _, _, hI⟩
    · omega
  · have q1 : ∀ q, q ≠ 14 → q ≠ 85 + p0 → M1 q = M q := fun q z1 z2 => by rw [e1, mset_ne _ _ _ z1, setA_ne _ _ z2]
    have q14 : M1 14 = upd (M 14) 9 (M 14 9 ||| nI 1 <<< (nI p0 &&& 31)) := by rw [e1, mset_eq, setA_ne _ _ (by omega)]
    have q85 : M1 (85 + p0) = WA M 18 (M (85 + p0)) := by rw [e1, mset_ne _ _ _ (by omega), setA_eq]
    refine ⟨_, rfl, _, c_X6_image l G M1 x n (by rw [q1 0 (by omega) (by omega)]; exact ht), fun v2 M2 h2 => ?_⟩
    rcases h2 with ⟨g2, -⟩ | ⟨p0x, hb0x, eq0x, ⟨g4, -⟩ | ⟨g4, rfl, hr⟩⟩
    · exact absurd ⟨p0, Nat.zero_le _, hb0, eq0⟩ g2
    · omega
    · obtain rfl : p0 = p0x := (nI_eq (by omega) (by omega)).mp (eq0.symm.trans eq0x)
      have r12 : M2 12 = fb_put (M 12) (M 4) (41 * p0) 41 := by rw [hr, ← q1 12 (by omega) (by omega), ← q1 4 (by omega) (by omega)]; rfl
      have r11 : M2 11 = upd (M 11) p0 1 := by rw [hr, ← q1 11 (by omega) (by omega)]; rfl
      have rq : ∀ q, q ≠ 11 → q ≠ 12 → M2 q = M1 q := fun q z0 z4 => by rw [hr, mset_ne _ _ _ z0, setA_ne _ _ z4]
      have e : ∀ q, q ≠ 11 → q ≠ 12 → q ≠ 14 → q < 85 → M2 q = M q := fun q z0 z1 z2 z3 => (rq q z0 z1).trans (q1 q z2 (by omega))
      have e14 : ∀ j, j ≠ 9 → M2 14 j = M 14 j := fun j hj => by rw [rq 14 (by decide) (by decide), q14, pk_un hj]
      obtain ⟨o1, o2, o3, o4, o5⟩ := bit_o w hw4 p0 (by omega)
      obtain ⟨i1, i2, i3, i4, i5, i6, i7, i8⟩ := hI
      have E : ∀ q, q < 14 → q ≠ 11 → q ≠ 12 → M2 q = M q := fun q z0 z1 z2 => e q z1 z2 (by omega) (by omega)
      refine ⟨rfl, n, a, b, t, w ||| 2 ^ p0, i1.fr (E 4 (by omega) (by omega) (by omega)) (by rw [E 0 (by omega) (by omega) (by omega)]) (fun q z1 z2 => e q (by omega) (by omega) (by omega) (by omega)),
        i2.fr (E 1 (by omega) (by omega) (by omega)) (E 2 (by omega) (by omega) (by omega)) (E 3 (by omega) (by omega) (by omega)) (fun q z1 z2 => e q (by omega) (by omega) (by omega) (by omega)),
        i3.fr (by rw [E 0 (by omega) (by omega) (by omega)]) (by rw [e 16 (by omega) (by omega) (by omega) (by omega)]) (E 6 (by omega) (by omega) (by omega)) (e 17 (by omega) (by omega) (by omega) (by omega)),
        i4.fr (e14 10 (by decide)) (e14 11 (by decide)) (by rw [E 0 (by omega) (by omega) (by omega)]) (by rw [E 0 (by omega) (by omega) (by omega)]),
        i5.fr (by rw [E 0 (by omega) (by omega) (by omega)]) (E 9 (by omega) (by omega) (by omega)) (fun q z => e q (by omega) (by omega) (by omega) (by omega)),
        ⟨o1, by rw [rq 14 (by decide) (by decide), q14, pk_us, h149, o3], fun k hk => ?_⟩,
        i7.fr (by rw [E 0 (by omega) (by omega) (by omega)]) (e 43 (by omega) (by omega) (by omega) (by omega)) (e 44 (by omega) (by omega) (by omega) (by omega)) (E 13 (by omega) (by omega) (by omega)), fun _ => g3⟩
      by_cases z : k = p0
      · subst z
        have ek : ∀ z, z < 41 → fb_put (M 12) (M 4) (41 * k) 41 (41 * k + z) = M 4 z := fun z hz => by rw [fb_put_in (by omega) (by omega), Nat.add_sub_cancel_left]
        refine Or.inr ⟨o4, by rw [r11, pk_us], n, g3, ?_, ?_⟩
        · rw [r12]; exact Rg_cong ek hR
        · rw [r12, rq _ (by omega) (by omega), q85]; exact cs_cong ek hn6 (cel_cs (WA_cel M 18 _) hm hn6)
      · have ek : ∀ z, z < 41 → fb_put (M 12) (M 4) (41 * p0) 41 (41 * k + z) = M 12 (41 * k + z) := fun z hz => by rw [fb_put_out (by omega)]
        rw [o5 k (by omega) z, r11, pk_un z, r12, rq (85 + k) (by omega) (by omega), q1 (85 + k) (by omega) (by omega)]
        rcases hGk k hk with y | ⟨y1, y2, m, y3, y4, y5⟩
        · exact Or.inl y
        · exact Or.inr ⟨y1, y2, m, y3, Rg_cong ek y4, cs_cong ek y4.1 y5⟩
set_option maxHeartbeats 4000000 in
theorem s_ministry (l : Launch) (G : Gx) (M : Mem) (h : Inv M) : LwS (Con l G yX5_ministry cX5_ministry 2 (some .int) 7 177 [.ref (gA G 14)] M) (fun M1 => Con l G yX6_ministry cX6_ministry 3 (some .int) 6 133 [.ref (gA G 0)] M1) := by
  obtain ⟨n, a, b, t, w, hI⟩ := h
  obtain ⟨⟨hm, hR, ht⟩, hW, hT, h4, hH, hG, hX, hE⟩ := id hI
  have hn := hR.2.1
  have hn6 := hR.1
  refine ⟨_, c_X5_ministry l G M (M 17) rfl b hT.2.1 hT.2.2.1 hT.2.2.2.2 (zR M) (fun j hj => if_pos hj), fun v M1 h1 => ?_⟩
  have e6 : M 17 = M 6 := hT.2.2.2.1
  rcases h1 with ⟨pl, wf, hO, rfl, k16, k14, kq⟩ | ⟨m, R, hO, hm1, rfl, hRg, hmm, k16, k40, kq⟩
  · have q0 : M1 0 = M 0 := kq 0 (by decide) (by decide) (by decide)
    have q6 : M1 6 = M 6 := kq 6 (by decide) (by decide) (by decide)
    have q7 : M1 7 = M 7 := kq 7 (by decide) (by decide) (by decide)
    refine ⟨_, rfl, _, c_X6_ministry l G M1 b (by rw [q0]; exact hT.1) hT.2.2.1, fun v2 M2 h2 => ?_⟩
    have eO : mnO (M1 6) b (zR M1) = mnO (M 17) b (zR M) := by rw [q6, e6]; unfold zR; rw [q7]
    rcases h2 with ⟨pl2, w2, hO2, rfl, hf⟩ | ⟨R2, hO2, -⟩
    · rw [eO, hO] at hO2
      cases hO2
      have r0 : ∀ j, j < 10 ∨ 14 < j → M2 0 j = upd (upd (M 0) 8 (nI 0)) 9 (nI wf) j := fun j hj => by rw [hf.2 j hj, mset_eq, mset_eq, q0]
      have rq : ∀ q, q ≠ 0 → q ≠ 7 → M2 q = M1 q := fun q z0 z7 => by rw [hf.1 q z0 z7, mset_ne _ _ _ z0, mset_ne _ _ _ z0]
      have e : ∀ q, q ≠ 0 → q ≠ 7 → q ≠ 14 → q ≠ 16 → q < 28 ∨ 34 < q → M2 q = M q := fun q z0 z1 z2 z3 z4 => (rq q z0 z1).trans (kq q z2 z3 z4)
      have e0 : ∀ j, j ≠ 8 → j ≠ 9 → j < 10 ∨ 14 < j → M2 0 j = M 0 j := fun j z1 z2 z3 => by rw [r0 j z3, pk_un z2, pk_un z1]
      have e14 : ∀ j, j ≠ 10 → M2 14 j = M 14 j := fun j hj => by rw [rq 14 (by decide) (by decide), k14, pk_un hj]
      obtain ⟨i1, i2, i3, i4, i5, i6, i7, i8⟩ := hI
      refine ⟨rfl, n, a, 0, t, w, i1.fr (e 4 (by omega) (by omega) (by omega) (by omega) (by omega)) (e0 4 (by omega) (by omega) (by omega)) (fun q z1 z2 => e q (by omega) (by omega) (by omega) (by omega) (by omega)),
        i2.fr (e 1 (by omega) (by omega) (by omega) (by omega) (by omega)) (e 2 (by omega) (by omega) (by omega) (by omega) (by omega)) (e 3 (by omega) (by omega) (by omega) (by omega) (by omega)) (fun q z1 z2 => e q (by omega) (by omega) (by omega) (by omega) (by omega)),
        ⟨by rw [r0 8 (by omega), pk_un (by decide), pk_us], by rw [rq 16 (by decide) (by decide)]; exact k16, by omega, by rw [e 17 (by omega) (by omega) (by omega) (by omega) (by omega), e 6 (by omega) (by omega) (by omega) (by omega) (by omega)]; exact e6, fun i hi => absurd hi (Nat.not_lt_zero i)⟩,
        ⟨by rw [rq 14 (by decide) (by decide), k14, pk_us, r0 9 (by omega), pk_us], by rw [e14 11 (by decide), e0 3 (by omega) (by omega) (by omega)]; exact i4.2⟩,
        i5.fr (e0 19 (by omega) (by omega) (by omega)) (e 9 (by omega) (by omega) (by omega) (by omega) (by omega)) (fun q z => e q (by omega) (by omega) (by omega) (by omega) (by omega)),
        i6.fr (e14 9 (by decide)) (e 11 (by omega) (by omega) (by omega) (by omega) (by omega)) (e 12 (by omega) (by omega) (by omega) (by omega) (by omega)) (fun q z1 z2 => e q (by omega) (by omega) (by omega) (by omega) (by omega)),
        i7.fr (e0 24 (by omega) (by omega) (by omega)) (e 43 (by omega) (by omega) (by omega) (by omega) (by omega)) (e 44 (by omega) (by omega) (by omega) (by omega) (by omega)) (e 13 (by omega) (by omega) (by omega) (by omega) (by omega)), i8⟩
    · rw [eO, hO] at hO2
      cases hO2
  · have q0 : M1 0 = M 0 := kq 0 (by decide) (by decide) (by decide) (by decide)
    have q6 : M1 6 = M 6 := kq 6 (by decide) (by decide) (by decide) (by decide)
    have q7 : M1 7 = M 7 := kq 7 (by decide) (by decide) (by decide) (by decide)
    have q4 : M1 4 = M 4 := kq 4 (by decide) (by decide) (by decide) (by decide)
    refine ⟨_, rfl, _, c_X6_ministry l G M1 b (by rw [q0]; exact hT.1) hT.2.2.1, fun v2 M2 h2 => ?_⟩
    have eO : mnO (M1 6) b (zR M1) = mnO (M 17) b (zR M) := by rw [q6, e6]; unfold zR; rw [q7]
    rcases h2 with ⟨pl2, w2, hO2, -⟩ | ⟨R2, hO2, rfl, hf⟩
    · rw [eO, hO] at hO2
      cases hO2
    · rw [eO, hO] at hO2
      cases hO2
      have r0 : ∀ j, j < 10 ∨ 14 < j → M2 0 j = upd (upd (upd (M 0) 8 (nI 0)) 4 (nI 1)) 19 (nI 0) j := fun j hj => by rw [hf.2 j hj, setA_ne _ _ (by decide), mset_eq, mset_eq, mset_eq, q0]
      have r4 : M2 4 = pt (M 4) R 41 := by rw [hf.1 4 (by decide) (by decide), setA_eq, q4]
      have rq : ∀ q, q ≠ 0 → q ≠ 7 → q ≠ 4 → M2 q = M1 q := fun q z0 z7 z4 => by rw [hf.1 q z0 z7, setA_ne _ _ z4, mset_ne _ _ _ z0, mset_ne _ _ _ z0, mset_ne _ _ _ z0]
      have ek : ∀ k, k < 41 → pt (M 4) R 41 k = R k := fun k hk => if_pos hk
      obtain ⟨o, z1, z2, z3, z4, -⟩ := hH.2
      refine ⟨by rw [hRg.2.1], m, 0, 0, t, w, ?_⟩
      refine hI.new hm1 (ms_cong ek hRg.1 (hmm.fr (fun q z1 z2 => rq q (by omega) (by omega) (by omega)))) (Rg_cong ek hRg) r4 (by rw [r0 4 (by omega), pk_un (by decide), pk_us]; decide) ⟨by rw [r0 19 (by omega), pk_us], o, z1, by omega, by rw [rq 40 (by decide) (by decide) (by decide), k40, pk_un (by decide)]; exact z3, by rw [rq 40 (by decide) (by decide) (by decide), k40, pk_us], fun i hi => absurd hi (Nat.not_lt_zero i)⟩
        ⟨by rw [r0 8 (by omega), pk_un (by decide), pk_un (by decide), pk_us], by rw [rq 16 (by decide) (by decide) (by decide)]; exact k16, by omega, by rw [rq 17 (by decide) (by decide) (by decide), rq 6 (by decide) (by decide) (by decide), q6, kq 17 (by decide) (by decide) (by decide) (by decide)]; exact e6, fun i hi => absurd hi (Nat.not_lt_zero i)⟩ (fun j hj => by rw [r0 j (by omega), pk_un (by omega), pk_un (by omega), pk_un (by omega)]) (by rw [rq 14 (by decide) (by decide) (by decide), kq 14 (by decide) (by decide) (by decide) (by decide)]) (fun q z0 z4 z6 z7 z14 z16 z17 z40 z z2 => by rw [rq q z0 z7 z4]; exact kq q z16 z40 (by omega) (by omega))
