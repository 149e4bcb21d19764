set_option maxHeartbeats 4000000 in
theorem s_who (l : Launch) (G : Gx) (M : Mem) (x y z u i o : Int32) (h : Inv M) : LwS (Con l G yX5_who cX5_who 10 (some .int) 4 132 [.ref (gA G 14), .int x, .int y, .int z, .int u, .int i, .int o] M) (fun M1 => Con l G yX6_who cX6_who 11 (some .int) 7 159 [.ref (gA G 0), .int x, .int y, .int z, .int u, .int i, .int o] M1) := by
  obtain ⟨n, a, b, t, w, hI⟩ := h
  obtain ⟨⟨hm, hR, ht⟩, hW, hT, h4, hH, hG, hX, hE⟩ := id hI
  have hn := hR.2.1
  have hn6 := hR.1
  refine ⟨_, c_X5_who l G M x y z u i o (M 4) n hm hR hW, fun v M1 h1 => ?_⟩
  rcases h1 with ⟨g1, rfl, e1⟩ | ⟨p0, p1, p2, p3, p4, c, hb0, hb1, hb2, hb3, ha4, hb4, eq0, eq1, eq2, eq3, eq4, hL, ⟨hc0, hc2, rfl, e1⟩ | ⟨hc0, tt, eqt, htm, rfl, hq⟩⟩
  · obtain rfl : M = M1 := e1.symm
    have e4 : M 4 = M 4 := rfl
    have e2 : M 2 = M 2 := rfl
    refine ⟨_, rfl, _, c_X6_who l G M x y z u i o n (by rw [e4]; exact hn) hn6 (hz_of hW e2), fun v2 M2 h2 => ?_⟩
    rcases h2 with ⟨g2, rfl, rfl⟩ | ⟨p0x, p1x, p2x, p3x, p4x, cx, hb0x, hb1x, hb2x, hb3x, ha4x, hb4x, eq0x, eq1x, eq2x, eq3x, eq4x, hLx, -⟩
    · exact ⟨rfl, _, _, _, _, _, hI⟩
    · exact absurd ⟨⟨p0x, hb0x, eq0x⟩, ⟨p1x, Nat.zero_le _, hb1x, eq1x⟩, ⟨p2x, hb2x, eq2x⟩, ⟨p3x, Nat.zero_le _, hb3x, eq3x⟩, ⟨p4x, ha4x, hb4x, eq4x⟩⟩ g1
  · have e4 : M1 4 = M 4 := by rw [e1, mset_ne _ _ _ (by decide)]
    have e2 : M1 2 = M 2 := by rw [e1, mset_ne _ _ _ (by decide)]
    refine ⟨_, rfl, _, c_X6_who l G M1 x y z u i o n (by rw [e4]; exact hn) hn6 (hz_of hW e2), fun v2 M2 h2 => ?_⟩
    rcases h2 with ⟨g2, -⟩ | ⟨p0x, p1x, p2x, p3x, p4x, cx, hb0x, hb1x, hb2x, hb3x, ha4x, hb4x, eq0x, eq1x, eq2x, eq3x, eq4x, hLx, ⟨hc0x, hc2x, rfl, hr⟩ | ⟨hc0x, -⟩⟩
    · exact absurd ⟨⟨p0, hb0, eq0⟩, ⟨p1, Nat.zero_le _, hb1, eq1⟩, ⟨p2, hb2, eq2⟩, ⟨p3, Nat.zero_le _, hb3, eq3⟩, ⟨p4, ha4, hb4, eq4⟩⟩ g2
    · obtain rfl : p0 = p0x := (nI_eq (by omega) (by omega)).mp (eq0.symm.trans eq0x)
      obtain rfl : p1 = p1x := (nI_eq (by omega) (by omega)).mp (eq1.symm.trans eq1x)
      obtain rfl : p2 = p2x := (nI_eq (by omega) (by omega)).mp (eq2.symm.trans eq2x)
      obtain rfl : p3 = p3x := (nI_eq (by omega) (by omega)).mp (eq3.symm.trans eq3x)
      obtain rfl : p4 = p4x := (nI_eq (by omega) (by omega)).mp (eq4.symm.trans eq4x)
      rw [e2] at hLx
      obtain rfl := LC_u hL hLx
      exact ⟨rfl, _, _, _, _, _, by rw [hr]; exact hI.f (by rw [e1]; exact fpc.refl _) (qm.refl M1)⟩
    · obtain rfl : p0 = p0x := (nI_eq (by omega) (by omega)).mp (eq0.symm.trans eq0x)
      obtain rfl : p1 = p1x := (nI_eq (by omega) (by omega)).mp (eq1.symm.trans eq1x)
      obtain rfl : p2 = p2x := (nI_eq (by omega) (by omega)).mp (eq2.symm.trans eq2x)
      obtain rfl : p3 = p3x := (nI_eq (by omega) (by omega)).mp (eq3.symm.trans eq3x)
      obtain rfl : p4 = p4x := (nI_eq (by omega) (by omega)).mp (eq4.symm.trans eq4x)
      rw [e2] at hLx
      exact absurd ((LC_u hL hLx).trans hc0x) hc0
  · have hq : fpc (mset M 14 11 (nI 0)) M1 := hq
    have e4 : M1 4 = M 4 := (hq 4 (by omega)).trans (mset_ne _ _ _ (by decide))
    have e2 : M1 2 = M 2 := (hq 2 (by omega)).trans (mset_ne _ _ _ (by decide))
    have e3 : M1 3 = M 3 := (hq 3 (by omega)).trans (mset_ne _ _ _ (by decide))
    refine ⟨_, rfl, _, c_X6_who l G M1 x y z u i o n (by rw [e4]; exact hn) hn6 (hz_of hW e2), fun v2 M2 h2 => ?_⟩
    rcases h2 with ⟨g2, -⟩ | ⟨p0x, p1x, p2x, p3x, p4x, cx, hb0x, hb1x, hb2x, hb3x, ha4x, hb4x, eq0x, eq1x, eq2x, eq3x, eq4x, hLx, ⟨hc0x, -⟩ | ⟨hc0x, ttx, eqtx, htmx, N, hqm, rfl, hr⟩⟩
    · exact absurd ⟨⟨p0, hb0, eq0⟩, ⟨p1, Nat.zero_le _, hb1, eq1⟩, ⟨p2, hb2, eq2⟩, ⟨p3, Nat.zero_le _, hb3, eq3⟩, ⟨p4, ha4, hb4, eq4⟩⟩ g2
    · obtain rfl : p0 = p0x := (nI_eq (by omega) (by omega)).mp (eq0.symm.trans eq0x)
      obtain rfl : p1 = p1x := (nI_eq (by omega) (by omega)).mp (eq1.symm.trans eq1x)
      obtain rfl : p2 = p2x := (nI_eq (by omega) (by omega)).mp (eq2.symm.trans eq2x)
      obtain rfl : p3 = p3x := (nI_eq (by omega) (by omega)).mp (eq3.symm.trans eq3x)
      obtain rfl : p4 = p4x := (nI_eq (by omega) (by omega)).mp (eq4.symm.trans eq4x)
      rw [e2] at hLx
      exact absurd ((LC_u hL hLx).symm.trans hc0) hc0x
    · obtain rfl : p0 = p0x := (nI_eq (by omega) (by omega)).mp (eq0.symm.trans eq0x)
      obtain rfl : p1 = p1x := (nI_eq (by omega) (by omega)).mp (eq1.symm.trans eq1x)
      obtain rfl : p2 = p2x := (nI_eq (by omega) (by omega)).mp (eq2.symm.trans eq2x)
      obtain rfl : p3 = p3x := (nI_eq (by omega) (by omega)).mp (eq3.symm.trans eq3x)
      obtain rfl : p4 = p4x := (nI_eq (by omega) (by omega)).mp (eq4.symm.trans eq4x)
      obtain rfl : tt = ttx := (nI_eq (by omega) (by omega)).mp (eqt.symm.trans eqtx)
      exact ⟨by rw [e4, e3], _, _, _, _, _, by rw [hr]; exact hI.f hq hqm⟩
set_option maxHeartbeats 4000000 in
theorem s_guarded (l : Launch) (G : Gx) (M : Mem) (x u i o : Int32) (h : Inv M) : LwS (Con l G yX5_guarded cX5_guarded 8 (some .int) 4 132 [.ref (gA G 14), .int x, .int u, .int i, .int o] M) (fun M1 => Con l G yX6_guarded cX6_guarded 8 (some .int) 7 159 [.ref (gA G 0), .int x, .int u, .int i, .int o] M1) := by
  obtain ⟨n, a, b, t, w, hI⟩ := h
  obtain ⟨⟨hm, hR, ht⟩, hW, hT, h4, hH, hG, hX, hE⟩ := id hI
  have hn := hR.2.1
  have hn6 := hR.1
  refine ⟨_, c_X5_guarded l G M x u i o (M 4) n hm hR hW, fun v M1 h1 => ?_⟩
  rcases h1 with ⟨g1, rfl, e1⟩ | ⟨p0, p1, p2, c, hb0, hb1, ha2, hb2, eq0, eq1, eq2, hL, ⟨hc0, hc2, rfl, e1⟩ | ⟨hc0, tt, eqt, htm, rfl, hq⟩⟩
  · obtain rfl : M = M1 := e1.symm
    have e4 : M 4 = M 4 := rfl
    have e2 : M 2 = M 2 := rfl
    refine ⟨_, rfl, _, c_X6_guarded l G M x u i o n (by rw [e4]; exact hn) hn6 (hz_of hW e2), fun v2 M2 h2 => ?_⟩
    rcases h2 with ⟨g2, rfl, rfl⟩ | ⟨p0x, p1x, p2x, cx, hb0x, hb1x, ha2x, hb2x, eq0x, eq1x, eq2x, hLx, -⟩
    · exact ⟨rfl, _, _, _, _, _, hI⟩
    · exact absurd ⟨⟨p0x, hb0x, eq0x⟩, ⟨p1x, Nat.zero_le _, hb1x, eq1x⟩, ⟨p2x, ha2x, hb2x, eq2x⟩⟩ g1
  · have e4 : M1 4 = M 4 := by rw [e1, mset_ne _ _ _ (by decide)]
    have e2 : M1 2 = M 2 := by rw [e1, mset_ne _ _ _ (by decide)]
    refine ⟨_, rfl, _, c_X6_guarded l G M1 x u i o n (by rw [e4]; exact hn) hn6 (hz_of hW e2), fun v2 M2 h2 => ?_⟩
    rcases h2 with ⟨g2, -⟩ | ⟨p0x, p1x, p2x, cx, hb0x, hb1x, ha2x, hb2x, eq0x, eq1x, eq2x, hLx, ⟨hc0x, hc2x, rfl, hr⟩ | ⟨hc0x, -⟩⟩
    · exact absurd ⟨⟨p0, hb0, eq0⟩, ⟨p1, Nat.zero_le _, hb1, eq1⟩, ⟨p2, ha2, hb2, eq2⟩⟩ g2
    · obtain rfl : p0 = p0x := (nI_eq (by omega) (by omega)).mp (eq0.symm.trans eq0x)
      obtain rfl : p1 = p1x := (nI_eq (by omega) (by omega)).mp (eq1.symm.trans eq1x)
      obtain rfl : p2 = p2x := (nI_eq (by omega) (by omega)).mp (eq2.symm.trans eq2x)
      rw [e2] at hLx
      obtain rfl := LC_u hL hLx
      exact ⟨rfl, _, _, _, _, _, by rw [hr]; exact hI.f (by rw [e1]; exact fpc.refl _) (qm.refl M1)⟩
    · obtain rfl : p0 = p0x := (nI_eq (by omega) (by omega)).mp (eq0.symm.trans eq0x)
      obtain rfl : p1 = p1x := (nI_eq (by omega) (by omega)).mp (eq1.symm.trans eq1x)
      obtain rfl : p2 = p2x := (nI_eq (by omega) (by omega)).mp (eq2.symm.trans eq2x)
      rw [e2] at hLx
      exact absurd ((LC_u hL hLx).trans hc0x) hc0
  · have hq : fpc (mset M 14 11 (nI 0)) M1 := hq
    have e4 : M1 4 = M 4 := (hq 4 (by omega)).trans (mset_ne _ _ _ (by decide))
    have e2 : M1 2 = M 2 := (hq 2 (by omega)).trans (mset_ne _ _ _ (by decide))
    have e3 : M1 3 = M 3 := (hq 3 (by omega)).trans (mset_ne _ _ _ (by decide))
    refine ⟨_, rfl, _, c_X6_guarded l G M1 x u i o n (by rw [e4]; exact hn) hn6 (hz_of hW e2), fun v2 M2 h2 => ?_⟩
    rcases h2 with ⟨g2, -⟩ | ⟨p0x, p1x, p2x, cx, hb0x, hb1x, ha2x, hb2x, eq0x, eq1x, eq2x, hLx, ⟨hc0x, -⟩ | ⟨hc0x, ttx, eqtx, htmx, N, hqm, rfl, hr⟩⟩
    · exact absurd ⟨⟨p0, hb0, eq0⟩, ⟨p1, Nat.zero_le _, hb1, eq1⟩, ⟨p2, ha2, hb2, eq2⟩⟩ g2
    · obtain rfl : p0 = p0x := (nI_eq (by omega) (by omega)).mp (eq0.symm.trans eq0x)
      obtain rfl : p1 = p1x := (nI_eq (by omega) (by omega)).mp (eq1.symm.trans eq1x)
      obtain rfl : p2 = p2x := (nI_eq (by omega) (by omega)).mp (eq2.symm.trans eq2x)
      rw [e2] at hLx
      exact absurd ((LC_u hL hLx).symm.trans hc0) hc0x
    · obtain rfl : p0 = p0x := (nI_eq (by omega) (by omega)).mp (eq0.symm.trans eq0x)
      obtain rfl : p1 = p1x := (nI_eq (by omega) (by omega)).mp (eq1.symm.trans eq1x)
      obtain rfl : p2 = p2x := (nI_eq (by omega) (by omega)).mp (eq2.symm.trans eq2x)
      obtain rfl : tt = ttx := (nI_eq (by omega) (by omega)).mp (eqt.symm.trans eqtx)
      exact ⟨by rw [e4, e3], _, _, _, _, _, by rw [hr]; exact hI.f hq hqm⟩
set_option maxHeartbeats 4000000 in
theorem s_doze (l : Launch) (G : Gx) (M : Mem) (x y z u o : Int32) (h : Inv M) : LwL (Con l G yX5_doze cX5_doze 13 (some .long) 6 174 [.ref (gA G 14), .int x, .int y, .int z, .int u, .int o] M) (fun M1 => Con l G yX6_doze cX6_doze 17 (some .long) 8 179 [.ref (gA G 0), .int x, .int y, .int z, .int u, .int o] M1) := by
  obtain ⟨n, a, b, t, w, hI⟩ := h
  obtain ⟨⟨hm, hR, ht⟩, hW, hT, h4, hH, hG, hX, hE⟩ := id hI
  have hn := hR.2.1
  have hn6 := hR.1
  obtain ⟨wd, hwn, hwd⟩ := hR.2.2.2.1
  have h64n := two6 n hn6
  have hw64 : wd < 64 := by omega
  refine ⟨_, c_X5_doze l G M x y z u o wd (M 4) n hm hR hwd hwn, fun v M1 h1 => ?_⟩
  rcases h1 with ⟨g1, rfl, hq⟩ | ⟨p0, p1, p2, p3, p4, hb0, hb1, hb2, hb3, hb4, eq0, eq1, eq2, eq3, eq4, rfl, hq⟩
  · have hq : fpc M M1 := by rw [hq]; exact fpc.refl M
    have e4 : M1 4 = M 4 := hq 4 (by omega)
    have e0 : M1 0 4 = M 0 4 := by rw [hq 0 (by omega)]
    have e2 : M1 2 = M 2 := hq 2 (by omega)
    refine ⟨_, rfl, _, c_X6_doze l G M1 x y z u o wd (by rw [e4]; exact hwd) hw64 n (by rw [e4]; exact hn) hn6, fun v2 M2 h2 => ?_⟩
    rcases h2 with ⟨g2, rfl, hr⟩ | ⟨p0x, p1x, p2x, p3x, p4x, hb0x, hb1x, hb2x, hb3x, hb4x, eq0x, eq1x, eq2x, eq3x, eq4x, rfl, hr⟩
    · exact ⟨rfl, ⟨_, _, _, _, _, hI.q hq (by rw [hr]; exact qm.refl _)⟩⟩
    · exact absurd ⟨⟨p0x, hb0x, eq0x⟩, ⟨p1x, Nat.zero_le _, hb1x, eq1x⟩, ⟨p2x, Nat.zero_le _, hb2x, eq2x⟩, ⟨p3x, Nat.zero_le _, hb3x, eq3x⟩, ⟨p4x, Nat.zero_le _, hb4x, eq4x⟩⟩ g1
  · have hq : fpc M M1 := hq
    have e4 : M1 4 = M 4 := hq 4 (by omega)
    have e0 : M1 0 4 = M 0 4 := by rw [hq 0 (by omega)]
    have e2 : M1 2 = M 2 := hq 2 (by omega)
    refine ⟨_, rfl, _, c_X6_doze l G M1 x y z u o wd (by rw [e4]; exact hwd) hw64 n (by rw [e4]; exact hn) hn6, fun v2 M2 h2 => ?_⟩
    rcases h2 with ⟨g2, rfl, hr⟩ | ⟨p0x, p1x, p2x, p3x, p4x, hb0x, hb1x, hb2x, hb3x, hb4x, eq0x, eq1x, eq2x, eq3x, eq4x, rfl, hr⟩
    · exact absurd ⟨⟨p0, hb0, eq0⟩, ⟨p1, Nat.zero_le _, hb1, eq1⟩, ⟨p2, Nat.zero_le _, hb2, eq2⟩, ⟨p3, Nat.zero_le _, hb3, eq3⟩, ⟨p4, Nat.zero_le _, hb4, eq4⟩⟩ g2
    · obtain rfl : p0 = p0x := (nI_eq (by omega) (by omega)).mp (eq0.symm.trans eq0x)
      obtain rfl : p1 = p1x := (nI_eq (by omega) (by omega)).mp (eq1.symm.trans eq1x)
      obtain rfl : p2 = p2x := (nI_eq (by omega) (by omega)).mp (eq2.symm.trans eq2x)
      obtain rfl : p3 = p3x := (nI_eq (by omega) (by omega)).mp (eq3.symm.trans eq3x)
      obtain rfl : p4 = p4x := (nI_eq (by omega) (by omega)).mp (eq4.symm.trans eq4x)
      exact ⟨by rw [e4], ⟨_, _, _, _, _, hI.q hq hr⟩⟩
theorem btM_q (M : Mem) (v : Int32) {q : Nat} (h1 : q ≠ 0) (h2 : q ≠ 13) : btM M v q = M q := by
  unfold btM
  split
  · rfl
  · rw [mset_ne _ _ _ h1, mset_ne _ _ _ h2]
theorem btM_0 (M : Mem) (v : Int32) {j : Nat} (h : j ≠ 24) : btM M v 0 j = M 0 j := by
  unfold btM
  split
  · rfl
  · rw [mset_eq, pk_un h, mset_ne _ _ _ (by decide)]
theorem btL_q : ∀ (cs : List Nat) (M : Mem) {q : Nat}, q ≠ 0 → q ≠ 13 → btL M cs q = M q
  | [], _, _, _, _ => rfl
  | c :: t, M, _, h1, h2 => (btL_q t _ h1 h2).trans (btM_q M _ h1 h2)
theorem btL_0 : ∀ (cs : List Nat) (M : Mem) {j : Nat}, j ≠ 24 → btL M cs 0 j = M 0 j
  | [], _, _, _ => rfl
  | c :: t, M, _, h => (btL_0 t _ h).trans (btM_0 M _ h)
theorem btM_t {M : Mem} {t : Nat} (h : M 0 24 = nI t) (ht : t < 16) (v : Int32) : btM M v 0 24 = nI (t + 1) ∧ btM M v 13 = upd (M 13) t v := by
  have e : btM M v = mset (mset M 13 t v) 0 24 (nI (t + 1)) := by
    unfold btM
    rw [h, if_neg (fun z => by have := (nI_leI (by omega) (by omega)).mp z; omega), nI_clamp (by omega), nI_add]
  rw [e]
  exact ⟨by rw [mset_eq, pk_us], by rw [mset_ne _ _ _ (by decide), mset_eq]⟩
theorem cbM_t {M : Mem} {t : Nat} (h : M 43 1 = nI t) (ht : t < 16) (v : Int32) : cbM M v 43 1 = nI (t + 1) ∧ cbM M v 44 = upd (M 44) t v := by
  have e : cbM M v = mset (mset M 44 t v) 43 1 (nI (t + 1)) := by
    unfold cbM
    rw [h, if_neg (fun z => by have := (nI_leI (by omega) (by omega)).mp z; omega), nI_clamp (by omega), nI_add]
  rw [e]
  exact ⟨by rw [mset_eq, pk_us], by rw [mset_ne _ _ _ (by decide), mset_eq]⟩
theorem btL_t : ∀ (cs : List Nat) (M : Mem) (t : Nat), M 0 24 = nI t → t + cs.length ≤ 16 → btL M cs 0 24 = nI (t + cs.length) ∧ (∀ i, i < t → btL M cs 13 i = M 13 i) ∧ ∀ i, i < cs.length → btL M cs 13 (t + i) = nI (cs.getD i 0)
  | [], M, t, h, _ => ⟨h, fun _ _ => rfl, fun i hi => absurd hi (Nat.not_lt_zero i)⟩
  | c :: r, M, t, h, hl => by
    simp only [List.length_cons] at hl ⊢
    obtain ⟨a1, a2⟩ := btM_t h (by omega) (nI c)
    obtain ⟨b1, b2, b3⟩ := btL_t r (btM M (nI c)) (t + 1) a1 (by omega)
    refine ⟨by show btL (btM M (nI c)) r 0 24 = _; rw [b1]; congr 1; omega, fun i hi => ?_, fun i hi => ?_⟩
    · show btL (btM M (nI c)) r 13 i = _
      rw [b2 i (by omega), a2, pk_un (by omega)]
    · show btL (btM M (nI c)) r 13 (t + i) = _
      cases i with
      | zero => rw [Nat.add_zero, b2 t (by omega), a2, pk_us]; rfl
      | succ i => rw [show t + (i + 1) = t + 1 + i by omega, b3 i (by omega)]; rfl
theorem cbL_t : ∀ (cs : List Nat) (M : Mem) (t : Nat), M 43 1 = nI t → t + cs.length ≤ 16 → cbL M cs 43 1 = nI (t + cs.length) ∧ (∀ i, i < t → cbL M cs 44 i = M 44 i) ∧ ∀ i, i < cs.length → cbL M cs 44 (t + i) = nI (cs.getD i 0)
  | [], M, t, h, _ => ⟨h, fun _ _ => rfl, fun i hi => absurd hi (Nat.not_lt_zero i)⟩
  | c :: r, M, t, h, hl => by
    simp only [List.length_cons] at hl ⊢
    obtain ⟨a1, a2⟩ := cbM_t h (by omega) (nI c)
    obtain ⟨b1, b2, b3⟩ := cbL_t r (cbM M (nI c)) (t + 1) a1 (by omega)
    refine ⟨by show cbL (cbM M (nI c)) r 43 1 = _; rw [b1]; congr 1; omega, fun i hi => ?_, fun i hi => ?_⟩
    · show cbL (cbM M (nI c)) r 44 i = _
      rw [b2 i (by omega), a2, pk_un (by omega)]
    · show cbL (cbM M (nI c)) r 44 (t + i) = _
      cases i with
      | zero => rw [Nat.add_zero, b2 t (by omega), a2, pk_us]; rfl
      | succ i => rw [show t + (i + 1) = t + 1 + i by omega, b3 i (by omega)]; rfl
theorem mkL_len (k : Int32) : (mkL k).length ≤ 6 := by
  unfold mkL okL
  repeat' split
  all_goals decide
theorem szL_len (k : Int32) : (szL k).length ≤ 10 := by
  have := mkL_len k
  unfold szL okL
  repeat' split
  all_goals simp
  all_goals omega
/-- both traces say the same -/
theorem Iv.ask {M : Mem} {n a b t w : Nat} (h : Iv M n a b t w) (L : List Nat) (hl : L.length ≤ 16) : Iv (btL (mset (cbL (mset M 43 1 (nI 0)) L) 0 24 (nI 0)) L) n a b L.length w := by
  obtain ⟨i1, i2, i3, i4, i5, i6, i7, i8⟩ := h
  have e : ∀ q, q ≠ 0 → q ≠ 13 → q ≠ 43 → q ≠ 44 → btL (mset (cbL (mset M 43 1 (nI 0)) L) 0 24 (nI 0)) L q = M q := fun q z1 z2 z3 z4 => by rw [btL_q _ _ z1 z2, mset_ne _ _ _ z1, cbL_q _ _ z3 z4, mset_ne _ _ _ z3]
  have e0 : ∀ j, j ≠ 24 → btL (mset (cbL (mset M 43 1 (nI 0)) L) 0 24 (nI 0)) L 0 j = M 0 j := fun j hj => by rw [btL_0 _ _ hj, mset_eq, pk_un hj, cbL_q _ _ (by decide) (by decide), mset_ne _ _ _ (by decide)]
  refine ⟨i1.fr (e 4 (by decide) (by decide) (by decide) (by decide)) (e0 4 (by decide)) (fun q z1 z2 => e q (by omega) (by omega) (by omega) (by omega)),
    i2.fr (e 1 (by decide) (by decide) (by decide) (by decide)) (e 2 (by decide) (by decide) (by decide) (by decide)) (e 3 (by decide) (by decide) (by decide) (by decide)) (fun q z1 z2 => e q (by omega) (by omega) (by omega) (by omega)),
    i3.fr (e0 8 (by decide)) (by rw [e 16 (by decide) (by decide) (by decide) (by decide)]) (e 6 (by decide) (by decide) (by decide) (by decide)) (e 17 (by decide) (by decide) (by decide) (by decide)),
    i4.fr (by rw [e 14 (by decide) (by decide) (by decide) (by decide)]) (by rw [e 14 (by decide) (by decide) (by decide) (by decide)]) (e0 9 (by decide)) (e0 3 (by decide)),
    i5.fr (e0 19 (by decide)) (e 9 (by decide) (by decide) (by decide) (by decide)) (fun q z => e q (by omega) (by omega) (by omega) (by omega)),
    i6.fr (by rw [e 14 (by decide) (by decide) (by decide) (by decide)]) (e 11 (by decide) (by decide) (by decide) (by decide)) (e 12 (by decide) (by decide) (by decide) (by decide)) (fun q z1 z2 => e q (by omega) (by omega) (by omega) (by omega)), ?_, i8⟩
  obtain ⟨a1, -, a3⟩ := btL_t L (mset (cbL (mset M 43 1 (nI 0)) L) 0 24 (nI 0)) 0 (by rw [mset_eq, pk_us]) (by omega)
  obtain ⟨b1, -, b3⟩ := cbL_t L (mset M 43 1 (nI 0)) 0 (by rw [mset_eq, pk_us]) (by omega)
  rw [Nat.zero_add] at a1 b1
  refine ⟨a1, ?_, hl, fun i hi => ?_⟩
  · rw [btL_q _ _ (by decide) (by decide), mset_ne _ _ _ (by decide)]; exact b1
  · rw [btL_q _ _ (by decide) (by decide), mset_ne _ _ _ (by decide)]
    have x1 := a3 i hi
    have x2 := b3 i hi
    rw [Nat.zero_add] at x1 x2
    rw [x1, x2]
set_option maxHeartbeats 4000000 in
theorem s_ask (l : Launch) (G : Gx) (M : Mem) (x y : Int32) (h : Inv M) : LwS (Con l G yX5_ask cX5_ask 3 (some .int) 11 417 [.ref (gA G 14), .int x, .int y] M) (fun M1 => Con l G yX6_ask cX6_ask 3 (some .int) 7 152 [.ref (gA G 0), .int x, .int y] M1) := by
  obtain ⟨n, a, b, t, w, hI⟩ := h
  obtain ⟨⟨hm, hR, ht⟩, hW, hT, h4, hH, hG, hX, hE⟩ := id hI
  have hn := hR.2.1
  have hn6 := hR.1
  refine ⟨_, c_X5_ask l G M x y (M 4) n hm hR, fun v M1 h1 => ?_⟩
  rcases h1 with ⟨g1, rfl, e1⟩ | ⟨p0, p1, hb0, hb1, eq0, eq1, rfl, e1⟩
  · obtain rfl : M = M1 := e1.symm
    refine ⟨_, rfl, _, c_X6_ask l G M x y n hn hn6, fun v2 M2 h2 => ?_⟩
    rcases h2 with ⟨g2, rfl, rfl⟩ | ⟨p0x, p1x, hb0x, hb1x, eq0x, eq1x, -⟩
    · exact ⟨rfl, _, _, _, _, _, hI⟩
    · exact absurd ⟨⟨p0x, hb0x, eq0x⟩, ⟨p1x, Nat.zero_le _, hb1x, eq1x⟩⟩ g1
  · have e4 : M1 4 = M 4 := by rw [e1, cbL_q _ _ (by decide) (by decide), mset_ne _ _ _ (by decide)]
    refine ⟨_, rfl, _, c_X6_ask l G M1 x y n (by rw [e4]; exact hn) hn6, fun v2 M2 h2 => ?_⟩
    rcases h2 with ⟨g2, -⟩ | ⟨p0x, p1x, hb0x, hb1x, eq0x, eq1x, rfl, hr⟩
    · exact absurd ⟨⟨p0, hb0, eq0⟩, ⟨p1, Nat.zero_le _, hb1, eq1⟩⟩ g2
    · obtain rfl : p0 = p0x := (nI_eq (by omega) (by omega)).mp (eq0.symm.trans eq0x)
      obtain rfl : p1 = p1x := (nI_eq (by omega) (by omega)).mp (eq1.symm.trans eq1x)
      rw [e4] at hr
      refine ⟨by rw [e4], n, a, b, (if p1 = 0 then szL (M 4 (5 + p0)) else mkL (M 4 (5 + p0))).length, w, ?_⟩
      rw [hr, e1]
      refine hI.ask _ ?_
      have k1 := szL_len (M 4 (5 + p0))
      have k2 := mkL_len (M 4 (5 + p0))
      split <;> omega
