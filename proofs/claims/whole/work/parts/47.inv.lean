/-! BOTH SIDES IN ONE MEMORY: what holds between two calls -/
def I1 (M : Mem) (n : Nat) : Prop := ms 18 n (M 4) M ∧ Rg n (M 4) ∧ (M 0 4 = 0 ↔ n = 0)
def I3 (M : Mem) (b : Nat) : Prop := M 0 8 = nI b ∧ M 16 1 = nI b ∧ b ≤ 120 ∧ M 17 = M 6 ∧ ∀ i, i < b → ∃ x, x < 256 ∧ M 17 i = nI x
def I4 (M : Mem) : Prop := M 14 10 = M 0 9 ∧ M 14 11 = M 0 3
def I5 (M : Mem) (a : Nat) : Prop := M 0 19 = nI a ∧ hsR M (fun i k => M 9 (41 * i + k)) a
def I6 (M : Mem) (w : Nat) : Prop := w < 4 ∧ M 14 9 = nI w ∧ ∀ k, k ≤ 1 → (w.testBit k = false ∧ M 11 k = 0) ∨ (w.testBit k = true ∧ M 11 k = 1 ∧ ∃ m, 0 < m ∧ Rg m (fun z => M 12 (41 * k + z)) ∧ cs m (fun z => M 12 (41 * k + z)) (M (85 + k)))
def I7 (M : Mem) (t : Nat) : Prop := M 0 24 = nI t ∧ M 43 1 = nI t ∧ t ≤ 16 ∧ ∀ i, i < t → M 44 i = M 13 i
def Iv (M : Mem) (n a b t w : Nat) : Prop := I1 M n ∧ rwR M ∧ I3 M b ∧ I4 M ∧ I5 M a ∧ I6 M w ∧ I7 M t ∧ (0 < a ∨ 0 < w → 0 < n)
def Inv (M : Mem) : Prop := ∃ n a b t w, Iv M n a b t w
theorem I1.fr {M N : Mem} {n : Nat} (h : I1 M n) (h1 : N 4 = M 4) (h2 : N 0 4 = M 0 4) (h3 : ∀ q, 18 ≤ q → q ≤ 24 → N q = M q) : I1 N n := by
  unfold I1
  rw [h1, h2]
  exact ⟨h.1.fr h3, h.2.1, h.2.2⟩
theorem rwR.fr {M N : Mem} (h : rwR M) (h1 : N 1 = M 1) (h2 : N 2 = M 2) (h3 : N 3 = M 3) (h4 : ∀ q, 45 ≤ q → q < 61 → N q = M q) : rwR N := by
  intro r hr
  rw [h1, h2, h3, h4 (45 + r) (by omega) (by omega), h4 (53 + r) (by omega) (by omega)]
  exact h r hr
theorem I3.fr {M N : Mem} {b : Nat} (h : I3 M b) (h1 : N 0 8 = M 0 8) (h2 : N 16 1 = M 16 1) (h3 : N 6 = M 6) (h4 : N 17 = M 17) : I3 N b := by
  unfold I3
  rw [h1, h2, h3, h4]
  exact h
theorem I4.fr {M N : Mem} (h : I4 M) (h1 : N 14 10 = M 14 10) (h2 : N 14 11 = M 14 11) (h3 : N 0 9 = M 0 9) (h4 : N 0 3 = M 0 3) : I4 N := by
  unfold I4
  rw [h1, h2, h3, h4]
  exact h
theorem I5.fr {M N : Mem} {a : Nat} (h : I5 M a) (h1 : N 0 19 = M 0 19) (h2 : N 9 = M 9) (h3 : ∀ q, q = 40 ∨ (61 ≤ q ∧ q < 85) → N q = M q) : I5 N a := by
  unfold I5
  rw [h1, h2]
  exact ⟨h.1, h.2.fr h3⟩
theorem I6.fr {M N : Mem} {w : Nat} (h : I6 M w) (h1 : N 14 9 = M 14 9) (h2 : N 11 = M 11) (h3 : N 12 = M 12) (h4 : ∀ q, 85 ≤ q → q < 87 → N q = M q) : I6 N w := by
  refine ⟨h.1, h1.trans h.2.1, fun k hk => ?_⟩
  rw [h2, h3, h4 (85 + k) (by omega) (by omega)]
  exact h.2.2 k hk
theorem I7.fr {M N : Mem} {t : Nat} (h : I7 M t) (h1 : N 0 24 = M 0 24) (h2 : N 43 = M 43) (h3 : N 44 = M 44) (h4 : N 13 = M 13) : I7 N t := by
  unfold I7
  rw [h1, h2, h3, h4]
  exact h
/-- the class foretells, then the reference -/
theorem Iv.q {M M1 M2 : Mem} {n a b t w : Nat} (h : Iv M n a b t w) (h1 : fpc M M1) (h2 : qm M1 M2) : Iv M2 n a b t w := by
  have e0 : ∀ j, j ≠ 17 → M2 0 j = M 0 j := fun j hj => (h2.2 j hj).trans (by rw [h1 0 (by omega)])
  have e : ∀ q, q ≠ 0 → q ≠ 8 → q ≠ 10 → q < 25 ∨ 39 < q → M2 q = M q := fun q a1 a2 a3 a4 => (h2.1 q a1 a2 a3).trans (h1 q a4)
  obtain ⟨i1, i2, i3, i4, i5, i6, i7, i8⟩ := h
  exact ⟨i1.fr (e 4 (by omega) (by omega) (by omega) (by omega)) (e0 4 (by omega)) (fun q z1 z2 => e q (by omega) (by omega) (by omega) (by omega)),
    i2.fr (e 1 (by omega) (by omega) (by omega) (by omega)) (e 2 (by omega) (by omega) (by omega) (by omega)) (e 3 (by omega) (by omega) (by omega) (by omega)) (fun q z1 z2 => e q (by omega) (by omega) (by omega) (by omega)),
    i3.fr (e0 8 (by omega)) (by rw [e 16 (by omega) (by omega) (by omega) (by omega)]) (e 6 (by omega) (by omega) (by omega) (by omega)) (e 17 (by omega) (by omega) (by omega) (by omega)),
    i4.fr (by rw [e 14 (by omega) (by omega) (by omega) (by omega)]) (by rw [e 14 (by omega) (by omega) (by omega) (by omega)]) (e0 9 (by omega)) (e0 3 (by omega)),
    i5.fr (e0 19 (by omega)) (e 9 (by omega) (by omega) (by omega) (by omega)) (fun q z => e q (by omega) (by omega) (by omega) (by omega)),
    i6.fr (by rw [e 14 (by omega) (by omega) (by omega) (by omega)]) (e 11 (by omega) (by omega) (by omega) (by omega)) (e 12 (by omega) (by omega) (by omega) (by omega)) (fun q z1 z2 => e q (by omega) (by omega) (by omega) (by omega)),
    i7.fr (e0 24 (by omega)) (e 43 (by omega) (by omega) (by omega) (by omega)) (e 44 (by omega) (by omega) (by omega) (by omega)) (e 13 (by omega) (by omega) (by omega) (by omega)), i8⟩
/-- both note a finding -/
theorem Iv.note {M : Mem} {n a b t w : Nat} (h : Iv M n a b t w) (c : Int32) : Iv (mset (mset M 14 11 c) 0 3 c) n a b t w := by
  obtain ⟨i1, i2, i3, i4, i5, i6, i7, i8⟩ := h
  have e : ∀ q, q ≠ 0 → q ≠ 14 → mset (mset M 14 11 c) 0 3 c q = M q := fun q z1 z2 => by rw [mset_ne _ _ _ z1, mset_ne _ _ _ z2]
  refine ⟨i1.fr rfl rfl (fun q z1 z2 => e q (by omega) (by omega)), i2.fr rfl rfl rfl (fun q z1 z2 => e q (by omega) (by omega)), i3.fr rfl rfl rfl rfl, ⟨i4.1, rfl⟩, i5.fr rfl rfl (fun q z => e q (by omega) (by omega)), i6.fr rfl rfl rfl (fun q z1 z2 => e q (by omega) (by omega)), i7.fr rfl rfl rfl rfl, i8⟩
/-- a finding by a call that foretells -/
theorem Iv.f {M M1 N : Mem} {n a b t w : Nat} {c : Int32} (h : Iv M n a b t w) (h1 : fpc (mset M 14 11 c) M1) (h2 : qm M1 N) : Iv (mset N 0 3 c) n a b t w := by
  have g := (h.note c).q (M1 := mset M1 0 3 c) (M2 := mset N 0 3 c) (fun q hq => ?_) ⟨fun q z1 z2 z3 => ?_, fun j hj => ?_⟩
  · exact g
  · by_cases z : q = 0
    · subst z; rw [mset_eq, mset_eq, h1 0 (by omega)]
    · rw [mset_ne _ _ _ z, mset_ne _ _ _ z]; exact h1 q hq
  · rw [mset_ne _ _ _ z1, mset_ne _ _ _ z1]; exact h2.1 q z1 z2 z3
  · rw [mset_eq, mset_eq]
    by_cases z : j = 3
    · subst z; rw [pk_us, pk_us]
    · rw [pk_un z, pk_un z]; exact h2.2 j hj
/-- one call of the law: the class's contract, then the reference's -/
def LwS (C5 : (Option Value → Mem → Prop) → Prop) (C6 : Mem → (Option Value → Mem → Prop) → Prop) : Prop := ∃ P5, C5 P5 ∧ ∀ v M1, P5 v M1 → ∃ a : Int32, v = some (.int a) ∧ ∃ P6, C6 M1 P6 ∧ ∀ v2 M2, P6 v2 M2 → v2 = some (.int a) ∧ Inv M2
def LwL (C5 : (Option Value → Mem → Prop) → Prop) (C6 : Mem → (Option Value → Mem → Prop) → Prop) : Prop := ∃ P5, C5 P5 ∧ ∀ v M1, P5 v M1 → ∃ a : Int64, v = some (.long a) ∧ ∃ P6, C6 M1 P6 ∧ ∀ v2 M2, P6 v2 M2 → v2 = some (.long a) ∧ Inv M2
theorem fst_u {p : Nat → Prop} {B : Nat} {u u2 : Int32} (h : fstE p B u) (g : fstE p B u2) : u = u2 := by
  rcases h with ⟨i, hi, h1, h2, rfl⟩ | ⟨h1, rfl⟩ <;> rcases g with ⟨j, hj, g1, g2, rfl⟩ | ⟨g1, rfl⟩
  · have a : ¬ j < i := fun z => h2 j z g1
    have b : ¬ i < j := fun z => g2 i z h1
    rw [show i = j by omega]
  · exact absurd h1 (g1 i hi)
  · exact absurd g1 (h1 j hj)
  · rfl
theorem hz_of {M N : Mem} (h : rwR M) (e : N 2 = M 2) : ∀ r, r ≤ 7 → N 2 r < 0 ∨ ∃ s, s ≤ 40 ∧ N 2 r = nI s := by
  intro r hr
  rw [e]
  rcases h r hr with z | ⟨s, l, z1, z2, z3, -⟩
  · exact Or.inl z.1
  · exact Or.inr ⟨s, z1, z3⟩
set_option maxHeartbeats 4000000 in
theorem s_chair (l : Launch) (G : Gx) (M : Mem) (x y : Int32) (h : Inv M) : LwS (Con l G yX5_chair cX5_chair 3 (some .int) 3 65 [.ref (gA G 14), .int x, .int y] M) (fun M1 => Con l G yX6_chair cX6_chair 3 (some .int) 5 111 [.ref (gA G 0), .int x, .int y] M1) := by
  obtain ⟨n, a, b, t, w, hI⟩ := h
  obtain ⟨⟨hm, hR, ht⟩, hW, hT, h4, hH, hG, hX, hE⟩ := id hI
  have hn := hR.2.1
  have hn6 := hR.1
  refine ⟨_, c_X5_chair l G M x y (M 4) n hm hR, fun v M1 h1 => ?_⟩
  rcases h1 with ⟨g1, rfl, hq⟩ | ⟨p0, p1, hb0, hb1, eq0, eq1, rfl, hq⟩
  · have hq : fpc M M1 := by rw [hq]; exact fpc.refl M
    have e4 : M1 4 = M 4 := hq 4 (by omega)
    have e0 : M1 0 4 = M 0 4 := by rw [hq 0 (by omega)]
    have e2 : M1 2 = M 2 := hq 2 (by omega)
    refine ⟨_, rfl, _, c_X6_chair l G M1 x y n (by rw [e4]; exact hn) hn6, fun v2 M2 h2 => ?_⟩
    rcases h2 with ⟨g2, rfl, hr⟩ | ⟨p0x, p1x, hb0x, hb1x, eq0x, eq1x, rfl, hr⟩
    · exact ⟨rfl, ⟨_, _, _, _, _, hI.q hq (by rw [hr]; exact qm.refl _)⟩⟩
    · exact absurd ⟨⟨p0x, hb0x, eq0x⟩, ⟨p1x, Nat.zero_le _, hb1x, eq1x⟩⟩ g1
  · have hq : fpc M M1 := hq
    have e4 : M1 4 = M 4 := hq 4 (by omega)
    have e0 : M1 0 4 = M 0 4 := by rw [hq 0 (by omega)]
    have e2 : M1 2 = M 2 := hq 2 (by omega)
    refine ⟨_, rfl, _, c_X6_chair l G M1 x y n (by rw [e4]; exact hn) hn6, fun v2 M2 h2 => ?_⟩
    rcases h2 with ⟨g2, rfl, hr⟩ | ⟨p0x, p1x, hb0x, hb1x, eq0x, eq1x, rfl, hr⟩
    · exact absurd ⟨⟨p0, hb0, eq0⟩, ⟨p1, Nat.zero_le _, hb1, eq1⟩⟩ g2
    · obtain rfl : p0 = p0x := (nI_eq (by omega) (by omega)).mp (eq0.symm.trans eq0x)
      obtain rfl : p1 = p1x := (nI_eq (by omega) (by omega)).mp (eq1.symm.trans eq1x)
      exact ⟨by rw [e4], ⟨_, _, _, _, _, hI.q hq (by rw [hr]; exact qm.refl _)⟩⟩
set_option maxHeartbeats 4000000 in
theorem s_ranked (l : Launch) (G : Gx) (M : Mem) (x : Int32) (h : Inv M) : LwS (Con l G yX5_ranked cX5_ranked 2 (some .int) 3 65 [.ref (gA G 14), .int x] M) (fun M1 => Con l G yX6_ranked cX6_ranked 2 (some .int) 4 89 [.ref (gA G 0), .int x] M1) := by
  obtain ⟨n, a, b, t, w, hI⟩ := h
  obtain ⟨⟨hm, hR, ht⟩, hW, hT, h4, hH, hG, hX, hE⟩ := id hI
  have hn := hR.2.1
  have hn6 := hR.1
  refine ⟨_, c_X5_ranked l G M x (M 4) n hm hR, fun v M1 h1 => ?_⟩
  rcases h1 with ⟨g1, rfl, hq⟩ | ⟨p0, hb0, eq0, rfl, hq⟩
  · have hq : fpc M M1 := by rw [hq]; exact fpc.refl M
    have e4 : M1 4 = M 4 := hq 4 (by omega)
    have e0 : M1 0 4 = M 0 4 := by rw [hq 0 (by omega)]
    have e2 : M1 2 = M 2 := hq 2 (by omega)
    refine ⟨_, rfl, _, c_X6_ranked l G M1 x n (by rw [e4]; exact hn) hn6, fun v2 M2 h2 => ?_⟩
    rcases h2 with ⟨g2, rfl, hr⟩ | ⟨p0x, hb0x, eq0x, rfl, hr⟩
    · exact ⟨rfl, ⟨_, _, _, _, _, hI.q hq (by rw [hr]; exact qm.refl _)⟩⟩
    · exact absurd ⟨p0x, hb0x, eq0x⟩ g1
  · have hq : fpc M M1 := hq
    have e4 : M1 4 = M 4 := hq 4 (by omega)
    have e0 : M1 0 4 = M 0 4 := by rw [hq 0 (by omega)]
    have e2 : M1 2 = M 2 := hq 2 (by omega)
    refine ⟨_, rfl, _, c_X6_ranked l G M1 x n (by rw [e4]; exact hn) hn6, fun v2 M2 h2 => ?_⟩
    rcases h2 with ⟨g2, rfl, hr⟩ | ⟨p0x, hb0x, eq0x, rfl, hr⟩
    · exact absurd ⟨p0, hb0, eq0⟩ g2
    · obtain rfl : p0 = p0x := (nI_eq (by omega) (by omega)).mp (eq0.symm.trans eq0x)
      exact ⟨by rw [e4], ⟨_, _, _, _, _, hI.q hq (by rw [hr]; exact qm.refl _)⟩⟩
set_option maxHeartbeats 4000000 in
theorem s_ahead (l : Launch) (G : Gx) (M : Mem) (x y z : Int32) (h : Inv M) : LwS (Con l G yX5_ahead cX5_ahead 4 (some .int) 4 129 [.ref (gA G 14), .int x, .int y, .int z] M) (fun M1 => Con l G yX6_ahead cX6_ahead 5 (some .int) 7 156 [.ref (gA G 0), .int x, .int y, .int z] M1) := by
  obtain ⟨n, a, b, t, w, hI⟩ := h
  obtain ⟨⟨hm, hR, ht⟩, hW, hT, h4, hH, hG, hX, hE⟩ := id hI
  have hn := hR.2.1
  have hn6 := hR.1
  refine ⟨_, c_X5_ahead l G M x y z (M 4) n hm hR, fun v M1 h1 => ?_⟩
  rcases h1 with ⟨g1, rfl, hq⟩ | ⟨p0, p1, p2, hb0, hb1, hb2, eq0, eq1, eq2, rfl, hq⟩
  · have hq : fpc M M1 := by rw [hq]; exact fpc.refl M
    have e4 : M1 4 = M 4 := hq 4 (by omega)
    have e0 : M1 0 4 = M 0 4 := by rw [hq 0 (by omega)]
    have e2 : M1 2 = M 2 := hq 2 (by omega)
    refine ⟨_, rfl, _, c_X6_ahead l G M1 x y z n (by rw [e4]; exact hn) hn6, fun v2 M2 h2 => ?_⟩
    rcases h2 with ⟨g2, rfl, hr⟩ | ⟨p0x, p1x, p2x, hb0x, hb1x, hb2x, eq0x, eq1x, eq2x, rfl, hr⟩
    · exact ⟨rfl, ⟨_, _, _, _, _, hI.q hq (by rw [hr]; exact qm.refl _)⟩⟩
    · exact absurd ⟨⟨p0x, hb0x, eq0x⟩, ⟨p1x, Nat.zero_le _, hb1x, eq1x⟩, ⟨p2x, Nat.zero_le _, hb2x, eq2x⟩⟩ g1
  · have hq : fpc M M1 := hq
    have e4 : M1 4 = M 4 := hq 4 (by omega)
    have e0 : M1 0 4 = M 0 4 := by rw [hq 0 (by omega)]
    have e2 : M1 2 = M 2 := hq 2 (by omega)
    refine ⟨_, rfl, _, c_X6_ahead l G M1 x y z n (by rw [e4]; exact hn) hn6, fun v2 M2 h2 => ?_⟩
    rcases h2 with ⟨g2, rfl, hr⟩ | ⟨p0x, p1x, p2x, hb0x, hb1x, hb2x, eq0x, eq1x, eq2x, rfl, hr⟩
    · exact absurd ⟨⟨p0, hb0, eq0⟩, ⟨p1, Nat.zero_le _, hb1, eq1⟩, ⟨p2, Nat.zero_le _, hb2, eq2⟩⟩ g2
    · obtain rfl : p0 = p0x := (nI_eq (by omega) (by omega)).mp (eq0.symm.trans eq0x)
      obtain rfl : p1 = p1x := (nI_eq (by omega) (by omega)).mp (eq1.symm.trans eq1x)
      obtain rfl : p2 = p2x := (nI_eq (by omega) (by omega)).mp (eq2.symm.trans eq2x)
      exact ⟨by rw [e4], ⟨_, _, _, _, _, hI.q hq hr⟩⟩
set_option maxHeartbeats 4000000 in
theorem s_climb (l : Launch) (G : Gx) (M : Mem) (x : Int32) (h : Inv M) : LwS (Con l G yX5_climb cX5_climb 4 (some .int) 3 65 [.ref (gA G 14), .int x] M) (fun M1 => Con l G yX6_climb cX6_climb 5 (some .int) 2 46 [.ref (gA G 0), .int x] M1) := by
  obtain ⟨n, a, b, t, w, hI⟩ := h
  obtain ⟨⟨hm, hR, ht⟩, hW, hT, h4, hH, hG, hX, hE⟩ := id hI
  have hn := hR.2.1
  have hn6 := hR.1
  refine ⟨_, c_X5_climb l G M x (M 4) n hm hR, fun v M1 h1 => ?_⟩
  rcases h1 with ⟨g1, rfl, hq⟩ | ⟨p0, hb0, eq0, rfl, hq⟩
  · have hq : fpc M M1 := by rw [hq]; exact fpc.refl M
    have e4 : M1 4 = M 4 := hq 4 (by omega)
    have e0 : M1 0 4 = M 0 4 := by rw [hq 0 (by omega)]
    have e2 : M1 2 = M 2 := hq 2 (by omega)
    refine ⟨_, rfl, _, c_X6_climb l G M1 x n (by rw [e4]; exact hn) hn6, fun v2 M2 h2 => ?_⟩
    rcases h2 with ⟨g2, rfl, hr⟩ | ⟨p0x, hb0x, eq0x, rfl, hr⟩
    · exact ⟨rfl, ⟨_, _, _, _, _, hI.q hq (by rw [hr]; exact qm.refl _)⟩⟩
    · exact absurd ⟨p0x, hb0x, eq0x⟩ g1
  · have hq : fpc M M1 := hq
    have e4 : M1 4 = M 4 := hq 4 (by omega)
    have e0 : M1 0 4 = M 0 4 := by rw [hq 0 (by omega)]
    have e2 : M1 2 = M 2 := hq 2 (by omega)
    refine ⟨_, rfl, _, c_X6_climb l G M1 x n (by rw [e4]; exact hn) hn6, fun v2 M2 h2 => ?_⟩
    rcases h2 with ⟨g2, rfl, hr⟩ | ⟨p0x, hb0x, eq0x, rfl, hr⟩
    · exact absurd ⟨p0, hb0, eq0⟩ g2
    · obtain rfl : p0 = p0x := (nI_eq (by omega) (by omega)).mp (eq0.symm.trans eq0x)
      exact ⟨by rw [e4], ⟨_, _, _, _, _, hI.q hq (by rw [hr]; exact qm.refl _)⟩⟩
set_option maxHeartbeats 4000000 in
theorem s_sawnBy (l : Launch) (G : Gx) (M : Mem) (x : Int32) (h : Inv M) : LwS (Con l G yX5_sawnBy cX5_sawnBy 4 (some .int) 3 65 [.ref (gA G 14), .int x] M) (fun M1 => Con l G yX6_sawnBy cX6_sawnBy 4 (some .int) 5 111 [.ref (gA G 0), .int x] M1) := by
  obtain ⟨n, a, b, t, w, hI⟩ := h
  obtain ⟨⟨hm, hR, ht⟩, hW, hT, h4, hH, hG, hX, hE⟩ := id hI
  have hn := hR.2.1
  have hn6 := hR.1
  refine ⟨_, c_X5_sawnBy l G M x (M 4) n hm hR, fun v M1 h1 => ?_⟩
  rcases h1 with ⟨g1, rfl, hq⟩ | ⟨p0, hb0, eq0, rfl, hq⟩
  · have hq : fpc M M1 := by rw [hq]; exact fpc.refl M
    have e4 : M1 4 = M 4 := hq 4 (by omega)
    have e0 : M1 0 4 = M 0 4 := by rw [hq 0 (by omega)]
    have e2 : M1 2 = M 2 := hq 2 (by omega)
    refine ⟨_, rfl, _, c_X6_sawnBy l G M1 x n (by rw [e4]; exact hn) hn6, fun v2 M2 h2 => ?_⟩
    rcases h2 with ⟨g2, rfl, hr⟩ | ⟨p0x, hb0x, eq0x, rfl, hr⟩
    · exact ⟨rfl, ⟨_, _, _, _, _, hI.q hq (by rw [hr]; exact qm.refl _)⟩⟩
    · exact absurd ⟨p0x, hb0x, eq0x⟩ g1
  · have hq : fpc M M1 := hq
    have e4 : M1 4 = M 4 := hq 4 (by omega)
    have e0 : M1 0 4 = M 0 4 := by rw [hq 0 (by omega)]
    have e2 : M1 2 = M 2 := hq 2 (by omega)
    refine ⟨_, rfl, _, c_X6_sawnBy l G M1 x n (by rw [e4]; exact hn) hn6, fun v2 M2 h2 => ?_⟩
    rcases h2 with ⟨g2, rfl, hr⟩ | ⟨p0x, hb0x, eq0x, rfl, hr⟩
    · exact absurd ⟨p0, hb0, eq0⟩ g2
    · obtain rfl : p0 = p0x := (nI_eq (by omega) (by omega)).mp (eq0.symm.trans eq0x)
      exact ⟨by rw [e4], ⟨_, _, _, _, _, hI.q hq (by rw [hr]; exact qm.refl _)⟩⟩
set_option maxHeartbeats 4000000 in
theorem s_enemy (l : Launch) (G : Gx) (M : Mem) (x y z : Int32) (h : Inv M) : LwS (Con l G yX5_enemy cX5_enemy 8 (some .int) 4 129 [.ref (gA G 14), .int x, .int y, .int z] M) (fun M1 => Con l G yX6_enemy cX6_enemy 8 (some .int) 7 156 [.ref (gA G 0), .int x, .int y, .int z] M1) := by
  obtain ⟨n, a, b, t, w, hI⟩ := h
  obtain ⟨⟨hm, hR, ht⟩, hW, hT, h4, hH, hG, hX, hE⟩ := id hI
  have hn := hR.2.1
  have hn6 := hR.1
  refine ⟨_, c_X5_enemy l G M x y z (M 4) n hm hR, fun v M1 h1 => ?_⟩
  rcases h1 with ⟨g1, rfl, hq⟩ | ⟨p0, p1, p2, hb0, ha1, hb1, hb2, eq0, eq1, eq2, rfl, hq⟩
  · have hq : fpc M M1 := by rw [hq]; exact fpc.refl M
    have e4 : M1 4 = M 4 := hq 4 (by omega)
    have e0 : M1 0 4 = M 0 4 := by rw [hq 0 (by omega)]
    have e2 : M1 2 = M 2 := hq 2 (by omega)
    refine ⟨_, rfl, _, c_X6_enemy l G M1 x y z n (by rw [e4]; exact hn) hn6, fun v2 M2 h2 => ?_⟩
    rcases h2 with ⟨g2, rfl, hr⟩ | ⟨p0x, p1x, p2x, hb0x, ha1x, hb1x, hb2x, eq0x, eq1x, eq2x, rfl, hr⟩
    · exact ⟨rfl, ⟨_, _, _, _, _, hI.q hq (by rw [hr]; exact qm.refl _)⟩⟩
    · exact absurd ⟨⟨p0x, hb0x, eq0x⟩, ⟨p1x, ha1x, hb1x, eq1x⟩, ⟨p2x, Nat.zero_le _, hb2x, eq2x⟩⟩ g1
  · have hq : fpc M M1 := hq
    have e4 : M1 4 = M 4 := hq 4 (by omega)
    have e0 : M1 0 4 = M 0 4 := by rw [hq 0 (by omega)]
    have e2 : M1 2 = M 2 := hq 2 (by omega)
    refine ⟨_, rfl, _, c_X6_enemy l G M1 x y z n (by rw [e4]; exact hn) hn6, fun v2 M2 h2 => ?_⟩
    rcases h2 with ⟨g2, rfl, hr⟩ | ⟨p0x, p1x, p2x, hb0x, ha1x, hb1x, hb2x, eq0x, eq1x, eq2x, rfl, hr⟩
    · exact absurd ⟨⟨p0, hb0, eq0⟩, ⟨p1, ha1, hb1, eq1⟩, ⟨p2, Nat.zero_le _, hb2, eq2⟩⟩ g2
    · obtain rfl : p0 = p0x := (nI_eq (by omega) (by omega)).mp (eq0.symm.trans eq0x)
      obtain rfl : p1 = p1x := (nI_eq (by omega) (by omega)).mp (eq1.symm.trans eq1x)
      obtain rfl : p2 = p2x := (nI_eq (by omega) (by omega)).mp (eq2.symm.trans eq2x)
      exact ⟨by rw [e4], ⟨_, _, _, _, _, hI.q hq hr⟩⟩
set_option maxHeartbeats 4000000 in
theorem s_kind (l : Launch) (G : Gx) (M : Mem) (x : Int32) (h : Inv M) : LwS (Con l G yX5_kind cX5_kind 2 (some .int) 2 43 [.ref (gA G 14), .int x] M) (fun M1 => Con l G yX6_kind cX6_kind 2 (some .int) 2 46 [.ref (gA G 0), .int x] M1) := by
  obtain ⟨n, a, b, t, w, hI⟩ := h
  obtain ⟨⟨hm, hR, ht⟩, hW, hT, h4, hH, hG, hX, hE⟩ := id hI
  have hn := hR.2.1
  have hn6 := hR.1
  refine ⟨_, c_X5_kind l G M x (M 4) n hm hR, fun v M1 h1 => ?_⟩
  rcases h1 with ⟨g1, rfl, hq⟩ | ⟨p0, hb0, eq0, rfl, hq⟩
  · have hq : fpc M M1 := by rw [hq]; exact fpc.refl M
    have e4 : M1 4 = M 4 := hq 4 (by omega)
    have e0 : M1 0 4 = M 0 4 := by rw [hq 0 (by omega)]
    have e2 : M1 2 = M 2 := hq 2 (by omega)
    refine ⟨_, rfl, _, c_X6_kind l G M1 x n (by rw [e4]; exact hn) hn6, fun v2 M2 h2 => ?_⟩
    rcases h2 with ⟨g2, rfl, hr⟩ | ⟨p0x, hb0x, eq0x, rfl, hr⟩
    · exact ⟨rfl, ⟨_, _, _, _, _, hI.q hq (by rw [hr]; exact qm.refl _)⟩⟩
    · exact absurd ⟨p0x, hb0x, eq0x⟩ g1
  · have hq : fpc M M1 := by rw [hq]; exact fpc.refl M
    have e4 : M1 4 = M 4 := hq 4 (by omega)
    have e0 : M1 0 4 = M 0 4 := by rw [hq 0 (by omega)]
    have e2 : M1 2 = M 2 := hq 2 (by omega)
    refine ⟨_, rfl, _, c_X6_kind l G M1 x n (by rw [e4]; exact hn) hn6, fun v2 M2 h2 => ?_⟩
    rcases h2 with ⟨g2, rfl, hr⟩ | ⟨p0x, hb0x, eq0x, rfl, hr⟩
    · exact absurd ⟨p0, hb0, eq0⟩ g2
    · obtain rfl : p0 = p0x := (nI_eq (by omega) (by omega)).mp (eq0.symm.trans eq0x)
      exact ⟨by rw [e4], ⟨_, _, _, _, _, hI.q hq (by rw [hr]; exact qm.refl _)⟩⟩
set_option maxHeartbeats 4000000 in
theorem s_guard (l : Launch) (G : Gx) (M : Mem) (x y z u : Int32) (h : Inv M) : LwS (Con l G yX5_guard cX5_guard 6 (some .int) 7 199 [.ref (gA G 14), .int x, .int y, .int z, .int u] M) (fun M1 => Con l G yX6_guard cX6_guard 7 (some .int) 8 179 [.ref (gA G 0), .int x, .int y, .int z, .int u] M1) := by
  obtain ⟨n, a, b, t, w, hI⟩ := h
  obtain ⟨⟨hm, hR, ht⟩, hW, hT, h4, hH, hG, hX, hE⟩ := id hI
  have hn := hR.2.1
  have hn6 := hR.1
  refine ⟨_, c_X5_guard l G M x y z u (M 4) n hm hR, fun v M1 h1 => ?_⟩
  rcases h1 with ⟨g1, rfl, hq⟩ | ⟨p0, p1, p2, p3, hb0, hb1, hb2, hb3, eq0, eq1, eq2, eq3, rfl, hq⟩
  · have hq : fpc M M1 := by rw [hq]; exact fpc.refl M
    have e4 : M1 4 = M 4 := hq 4 (by omega)
    have e0 : M1 0 4 = M 0 4 := by rw [hq 0 (by omega)]
    have e2 : M1 2 = M 2 := hq 2 (by omega)
    refine ⟨_, rfl, _, c_X6_guard l G M1 x y z u n (by rw [e4]; exact hn) hn6, fun v2 M2 h2 => ?_⟩
    rcases h2 with ⟨g2, rfl, hr⟩ | ⟨p0x, p1x, p2x, p3x, hb0x, hb1x, hb2x, hb3x, eq0x, eq1x, eq2x, eq3x, rfl, hr⟩
    · exact ⟨rfl, ⟨_, _, _, _, _, hI.q hq (by rw [hr]; exact qm.refl _)⟩⟩
    · exact absurd ⟨⟨p0x, hb0x, eq0x⟩, ⟨p1x, Nat.zero_le _, hb1x, eq1x⟩, ⟨p2x, Nat.zero_le _, hb2x, eq2x⟩, ⟨p3x, Nat.zero_le _, hb3x, eq3x⟩⟩ g1
  · have hq : fpc M M1 := hq
    have e4 : M1 4 = M 4 := hq 4 (by omega)
    have e0 : M1 0 4 = M 0 4 := by rw [hq 0 (by omega)]
    have e2 : M1 2 = M 2 := hq 2 (by omega)
    refine ⟨_, rfl, _, c_X6_guard l G M1 x y z u n (by rw [e4]; exact hn) hn6, fun v2 M2 h2 => ?_⟩
    rcases h2 with ⟨g2, rfl, hr⟩ | ⟨p0x, p1x, p2x, p3x, hb0x, hb1x, hb2x, hb3x, eq0x, eq1x, eq2x, eq3x, rfl, hr⟩
    · exact absurd ⟨⟨p0, hb0, eq0⟩, ⟨p1, Nat.zero_le _, hb1, eq1⟩, ⟨p2, Nat.zero_le _, hb2, eq2⟩, ⟨p3, Nat.zero_le _, hb3, eq3⟩⟩ g2
    · obtain rfl : p0 = p0x := (nI_eq (by omega) (by omega)).mp (eq0.symm.trans eq0x)
      obtain rfl : p1 = p1x := (nI_eq (by omega) (by omega)).mp (eq1.symm.trans eq1x)
      obtain rfl : p2 = p2x := (nI_eq (by omega) (by omega)).mp (eq2.symm.trans eq2x)
      obtain rfl : p3 = p3x := (nI_eq (by omega) (by omega)).mp (eq3.symm.trans eq3x)
      exact ⟨by rw [e4], ⟨_, _, _, _, _, hI.q hq hr⟩⟩
set_option maxHeartbeats 4000000 in
theorem s_minister (l : Launch) (G : Gx) (M : Mem) (x : Int32) (h : Inv M) : LwS (Con l G yX5_minister cX5_minister 2 (some .int) 4 129 [.ref (gA G 14), .int x] M) (fun M1 => Con l G yX6_minister cX6_minister 3 (some .int) 7 156 [.ref (gA G 0), .int x] M1) := by
  obtain ⟨n, a, b, t, w, hI⟩ := h
  obtain ⟨⟨hm, hR, ht⟩, hW, hT, h4, hH, hG, hX, hE⟩ := id hI
  have hn := hR.2.1
  have hn6 := hR.1
  refine ⟨_, c_X5_minister l G M x (M 4) n hm hR, fun v M1 h1 => ?_⟩
  rcases h1 with ⟨z0, rfl, hq⟩ | ⟨z0, g1, rfl, hq⟩ | ⟨z0, p0, hb0, eq0, rfl, hq⟩
  · have hq : fpc M M1 := by rw [hq]; exact fpc.refl M
    have e4 : M1 4 = M 4 := hq 4 (by omega)
    have e0 : M1 0 4 = M 0 4 := by rw [hq 0 (by omega)]
    have e2 : M1 2 = M 2 := hq 2 (by omega)
    refine ⟨_, rfl, _, c_X6_minister l G M1 x n (by rw [e4]; exact hn) hn6 (by rw [e0]; exact ht), fun v2 M2 h2 => ?_⟩
    rcases h2 with ⟨y0, rfl, hr⟩ | ⟨y0, g2, rfl, hr⟩ | ⟨y0, p0x, hb0x, eq0x, rfl, hr⟩
    · exact ⟨rfl, ⟨_, _, _, _, _, hI.q hq (by rw [hr]; exact qm.refl _)⟩⟩
    · exact absurd y0 (by omega)
    · exact absurd y0 (by omega)
  · have hq : fpc M M1 := by rw [hq]; exact fpc.refl M
    have e4 : M1 4 = M 4 := hq 4 (by omega)
    have e0 : M1 0 4 = M 0 4 := by rw [hq 0 (by omega)]
    have e2 : M1 2 = M 2 := hq 2 (by omega)
    refine ⟨_, rfl, _, c_X6_minister l G M1 x n (by rw [e4]; exact hn) hn6 (by rw [e0]; exact ht), fun v2 M2 h2 => ?_⟩
    rcases h2 with ⟨y0, rfl, hr⟩ | ⟨y0, g2, rfl, hr⟩ | ⟨y0, p0x, hb0x, eq0x, rfl, hr⟩
    · exact absurd y0 (by omega)
    · exact ⟨rfl, ⟨_, _, _, _, _, hI.q hq (by rw [hr]; exact qm.refl _)⟩⟩
    · exact absurd ⟨p0x, Nat.zero_le _, hb0x, eq0x⟩ g1
  · have hq : fpc M M1 := hq
    have e4 : M1 4 = M 4 := hq 4 (by omega)
    have e0 : M1 0 4 = M 0 4 := by rw [hq 0 (by omega)]
    have e2 : M1 2 = M 2 := hq 2 (by omega)
    refine ⟨_, rfl, _, c_X6_minister l G M1 x n (by rw [e4]; exact hn) hn6 (by rw [e0]; exact ht), fun v2 M2 h2 => ?_⟩
    rcases h2 with ⟨y0, rfl, hr⟩ | ⟨y0, g2, rfl, hr⟩ | ⟨y0, p0x, hb0x, eq0x, rfl, hr⟩
    · exact absurd y0 (by omega)
    · exact absurd ⟨p0, Nat.zero_le _, hb0, eq0⟩ g2
    · obtain rfl : p0 = p0x := (nI_eq (by omega) (by omega)).mp (eq0.symm.trans eq0x)
      exact ⟨by rw [e4], ⟨_, _, _, _, _, hI.q hq hr⟩⟩
set_option maxHeartbeats 4000000 in
theorem s_bestWatch (l : Launch) (G : Gx) (M : Mem) (x y : Int32) (h : Inv M) : LwS (Con l G yX5_bestWatch cX5_bestWatch 7 (some .int) 5 151 [.ref (gA G 14), .int x, .int y] M) (fun M1 => Con l G yX6_bestWatch cX6_bestWatch 7 (some .int) 7 156 [.ref (gA G 0), .int x, .int y] M1) := by
  obtain ⟨n, a, b, t, w, hI⟩ := h
  obtain ⟨⟨hm, hR, ht⟩, hW, hT, h4, hH, hG, hX, hE⟩ := id hI
  have hn := hR.2.1
  have hn6 := hR.1
  refine ⟨_, c_X5_bestWatch l G M x y (M 4) n hm hR, fun v M1 h1 => ?_⟩
  rcases h1 with ⟨z0, rfl, hq⟩ | ⟨z0, g1, rfl, hq⟩ | ⟨z0, p0, p1, ha0, hb0, hb1, eq0, eq1, rfl, hq⟩
  · have hq : fpc M M1 := by rw [hq]; exact fpc.refl M
    have e4 : M1 4 = M 4 := hq 4 (by omega)
    have e0 : M1 0 4 = M 0 4 := by rw [hq 0 (by omega)]
    have e2 : M1 2 = M 2 := hq 2 (by omega)
    refine ⟨_, rfl, _, c_X6_bestWatch l G M1 x y n (by rw [e4]; exact hn) hn6 (by rw [e0]; exact ht), fun v2 M2 h2 => ?_⟩
    rcases h2 with ⟨y0, rfl, hr⟩ | ⟨y0, g2, rfl, hr⟩ | ⟨y0, p0x, p1x, ha0x, hb0x, hb1x, eq0x, eq1x, rfl, hr⟩
    · exact ⟨rfl, ⟨_, _, _, _, _, hI.q hq (by rw [hr]; exact qm.refl _)⟩⟩
    · exact absurd y0 (by omega)
    · exact absurd y0 (by omega)
  · have hq : fpc M M1 := by rw [hq]; exact fpc.refl M
    have e4 : M1 4 = M 4 := hq 4 (by omega)
    have e0 : M1 0 4 = M 0 4 := by rw [hq 0 (by omega)]
    have e2 : M1 2 = M 2 := hq 2 (by omega)
    refine ⟨_, rfl, _, c_X6_bestWatch l G M1 x y n (by rw [e4]; exact hn) hn6 (by rw [e0]; exact ht), fun v2 M2 h2 => ?_⟩
    rcases h2 with ⟨y0, rfl, hr⟩ | ⟨y0, g2, rfl, hr⟩ | ⟨y0, p0x, p1x, ha0x, hb0x, hb1x, eq0x, eq1x, rfl, hr⟩
    · exact absurd y0 (by omega)
    · exact ⟨rfl, ⟨_, _, _, _, _, hI.q hq (by rw [hr]; exact qm.refl _)⟩⟩
    · exact absurd ⟨⟨p0x, ha0x, hb0x, eq0x⟩, ⟨p1x, Nat.zero_le _, hb1x, eq1x⟩⟩ g1
  · have hq : fpc M M1 := hq
    have e4 : M1 4 = M 4 := hq 4 (by omega)
    have e0 : M1 0 4 = M 0 4 := by rw [hq 0 (by omega)]
    have e2 : M1 2 = M 2 := hq 2 (by omega)
    refine ⟨_, rfl, _, c_X6_bestWatch l G M1 x y n (by rw [e4]; exact hn) hn6 (by rw [e0]; exact ht), fun v2 M2 h2 => ?_⟩
    rcases h2 with ⟨y0, rfl, hr⟩ | ⟨y0, g2, rfl, hr⟩ | ⟨y0, p0x, p1x, ha0x, hb0x, hb1x, eq0x, eq1x, rfl, hr⟩
    · exact absurd y0 (by omega)
    · exact absurd ⟨⟨p0, ha0, hb0, eq0⟩, ⟨p1, Nat.zero_le _, hb1, eq1⟩⟩ g2
    · obtain rfl : p0 = p0x := (nI_eq (by omega) (by omega)).mp (eq0.symm.trans eq0x)
      obtain rfl : p1 = p1x := (nI_eq (by omega) (by omega)).mp (eq1.symm.trans eq1x)
      exact ⟨by rw [e4], ⟨_, _, _, _, _, hI.q hq hr⟩⟩
set_option maxHeartbeats 4000000 in
theorem s_coalition (l : Launch) (G : Gx) (M : Mem) (x : Int32) (h : Inv M) : LwS (Con l G yX5_coalition cX5_coalition 3 (some .int) 3 83 [.ref (gA G 14), .int x] M) (fun M1 => Con l G yX6_coalition cX6_coalition 7 (some .int) 2 45 [.ref (gA G 0), .int x] M1) := by
  obtain ⟨n, a, b, t, w, hI⟩ := h
  obtain ⟨⟨hm, hR, ht⟩, hW, hT, h4, hH, hG, hX, hE⟩ := id hI
  have hn := hR.2.1
  have hn6 := hR.1
  refine ⟨_, c_X5_coalition l G M x (M 4) n hm hR, fun v M1 h1 => ?_⟩
  rcases h1 with ⟨z0, rfl, hq⟩ | ⟨z0, g1, rfl, hq⟩ | ⟨z0, p0, hb0, eq0, rfl, hq⟩
  · have hq : fpc M M1 := by rw [hq]; exact fpc.refl M
    have e4 : M1 4 = M 4 := hq 4 (by omega)
    have e0 : M1 0 4 = M 0 4 := by rw [hq 0 (by omega)]
    have e2 : M1 2 = M 2 := hq 2 (by omega)
    refine ⟨_, rfl, _, c_X6_coalition l G M1 x n (by rw [e4]; exact hn) hn6 (by rw [e0]; exact ht), fun v2 M2 h2 => ?_⟩
    rcases h2 with ⟨y0, rfl, hr⟩ | ⟨y0, g2, rfl, hr⟩ | ⟨y0, p0x, hb0x, eq0x, rfl, hr⟩
    · exact ⟨rfl, ⟨_, _, _, _, _, hI.q hq (by rw [hr]; exact qm.refl _)⟩⟩
    · exact absurd y0 (by omega)
    · exact absurd y0 (by omega)
  · have hq : fpc M M1 := by rw [hq]; exact fpc.refl M
    have e4 : M1 4 = M 4 := hq 4 (by omega)
    have e0 : M1 0 4 = M 0 4 := by rw [hq 0 (by omega)]
    have e2 : M1 2 = M 2 := hq 2 (by omega)
    refine ⟨_, rfl, _, c_X6_coalition l G M1 x n (by rw [e4]; exact hn) hn6 (by rw [e0]; exact ht), fun v2 M2 h2 => ?_⟩
    rcases h2 with ⟨y0, rfl, hr⟩ | ⟨y0, g2, rfl, hr⟩ | ⟨y0, p0x, hb0x, eq0x, rfl, hr⟩
    · exact absurd y0 (by omega)
    · exact ⟨rfl, ⟨_, _, _, _, _, hI.q hq (by rw [hr]; exact qm.refl _)⟩⟩
    · exact absurd ⟨p0x, Nat.zero_le _, hb0x, eq0x⟩ g1
  · have hq : fpc M M1 := by rw [hq]; exact fpc.refl M
    have e4 : M1 4 = M 4 := hq 4 (by omega)
    have e0 : M1 0 4 = M 0 4 := by rw [hq 0 (by omega)]
    have e2 : M1 2 = M 2 := hq 2 (by omega)
    refine ⟨_, rfl, _, c_X6_coalition l G M1 x n (by rw [e4]; exact hn) hn6 (by rw [e0]; exact ht), fun v2 M2 h2 => ?_⟩
    rcases h2 with ⟨y0, rfl, hr⟩ | ⟨y0, g2, rfl, hr⟩ | ⟨y0, p0x, hb0x, eq0x, rfl, hr⟩
    · exact absurd y0 (by omega)
    · exact absurd ⟨p0, Nat.zero_le _, hb0, eq0⟩ g2
    · obtain rfl : p0 = p0x := (nI_eq (by omega) (by omega)).mp (eq0.symm.trans eq0x)
      exact ⟨by rw [e4], ⟨_, _, _, _, _, hI.q hq (by rw [hr]; exact qm.refl _)⟩⟩
set_option maxHeartbeats 4000000 in
theorem s_drawn (l : Launch) (G : Gx) (M : Mem) (x y z : Int32) (h : Inv M) : LwS (Con l G yX5_drawn cX5_drawn 8 (some .int) 3 107 [.ref (gA G 14), .int x, .int y, .int z] M) (fun M1 => Con l G yX6_drawn cX6_drawn 8 (some .int) 6 134 [.ref (gA G 0), .int x, .int y, .int z] M1) := by
  obtain ⟨n, a, b, t, w, hI⟩ := h
  obtain ⟨⟨hm, hR, ht⟩, hW, hT, h4, hH, hG, hX, hE⟩ := id hI
  have hn := hR.2.1
  have hn6 := hR.1
  refine ⟨_, c_X5_drawn l G M x y z (M 4) n hm hR, fun v M1 h1 => ?_⟩
  rcases h1 with ⟨z0, rfl, hq⟩ | ⟨z0, g1, rfl, hq⟩ | ⟨z0, p0, p1, p2, hb0, ha1, hb1, hb2, eq0, eq1, eq2, rfl, hq⟩
  · have hq : fpc M M1 := by rw [hq]; exact fpc.refl M
    have e4 : M1 4 = M 4 := hq 4 (by omega)
    have e0 : M1 0 4 = M 0 4 := by rw [hq 0 (by omega)]
    have e2 : M1 2 = M 2 := hq 2 (by omega)
    refine ⟨_, rfl, _, c_X6_drawn l G M1 x y z n (by rw [e4]; exact hn) hn6 (by rw [e0]; exact ht), fun v2 M2 h2 => ?_⟩
    rcases h2 with ⟨y0, rfl, hr⟩ | ⟨y0, g2, rfl, hr⟩ | ⟨y0, p0x, p1x, p2x, hb0x, ha1x, hb1x, hb2x, eq0x, eq1x, eq2x, rfl, hr⟩
    · exact ⟨rfl, ⟨_, _, _, _, _, hI.q hq (by rw [hr]; exact qm.refl _)⟩⟩
    · exact absurd y0 (by omega)
    · exact absurd y0 (by omega)
  · have hq : fpc M M1 := by rw [hq]; exact fpc.refl M
    have e4 : M1 4 = M 4 := hq 4 (by omega)
    have e0 : M1 0 4 = M 0 4 := by rw [hq 0 (by omega)]
    have e2 : M1 2 = M 2 := hq 2 (by omega)
    refine ⟨_, rfl, _, c_X6_drawn l G M1 x y z n (by rw [e4]; exact hn) hn6 (by rw [e0]; exact ht), fun v2 M2 h2 => ?_⟩
    rcases h2 with ⟨y0, rfl, hr⟩ | ⟨y0, g2, rfl, hr⟩ | ⟨y0, p0x, p1x, p2x, hb0x, ha1x, hb1x, hb2x, eq0x, eq1x, eq2x, rfl, hr⟩
    · exact absurd y0 (by omega)
    · exact ⟨rfl, ⟨_, _, _, _, _, hI.q hq (by rw [hr]; exact qm.refl _)⟩⟩
    · exact absurd ⟨⟨p0x, Nat.zero_le _, hb0x, eq0x⟩, ⟨p1x, ha1x, hb1x, eq1x⟩, ⟨p2x, Nat.zero_le _, hb2x, eq2x⟩⟩ g1
  · have hq : fpc M M1 := hq
    have e4 : M1 4 = M 4 := hq 4 (by omega)
    have e0 : M1 0 4 = M 0 4 := by rw [hq 0 (by omega)]
    have e2 : M1 2 = M 2 := hq 2 (by omega)
    refine ⟨_, rfl, _, c_X6_drawn l G M1 x y z n (by rw [e4]; exact hn) hn6 (by rw [e0]; exact ht), fun v2 M2 h2 => ?_⟩
    rcases h2 with ⟨y0, rfl, hr⟩ | ⟨y0, g2, rfl, hr⟩ | ⟨y0, p0x, p1x, p2x, hb0x, ha1x, hb1x, hb2x, eq0x, eq1x, eq2x, rfl, hr⟩
    · exact absurd y0 (by omega)
    · exact absurd ⟨⟨p0, Nat.zero_le _, hb0, eq0⟩, ⟨p1, ha1, hb1, eq1⟩, ⟨p2, Nat.zero_le _, hb2, eq2⟩⟩ g2
    · obtain rfl : p0 = p0x := (nI_eq (by omega) (by omega)).mp (eq0.symm.trans eq0x)
      obtain rfl : p1 = p1x := (nI_eq (by omega) (by omega)).mp (eq1.symm.trans eq1x)
      obtain rfl : p2 = p2x := (nI_eq (by omega) (by omega)).mp (eq2.symm.trans eq2x)
      exact ⟨by rw [e4], ⟨_, _, _, _, _, hI.q hq hr⟩⟩
set_option maxHeartbeats 4000000 in
theorem s_round (l : Launch) (G : Gx) (M : Mem) (h : Inv M) : LwS (Con l G yX5_round cX5_round 4 (some .int) 3 65 [.ref (gA G 14)] M) (fun M1 => Con l G yX6_round cX6_round 4 (some .int) 5 111 [.ref (gA G 0)] M1) := by
  obtain ⟨n, a, b, t, w, hI⟩ := h
  obtain ⟨⟨hm, hR, ht⟩, hW, hT, h4, hH, hG, hX, hE⟩ := id hI
  have hn := hR.2.1
  have hn6 := hR.1
  refine ⟨_, c_X5_round l G M (M 4) n hm hR, fun v M1 h1 => ?_⟩
  rcases h1 with ⟨z0, rfl, hq⟩ | ⟨z0, rfl, hq⟩
  · have hq : fpc M M1 := by rw [hq]; exact fpc.refl M
    have e4 : M1 4 = M 4 := hq 4 (by omega)
    have e0 : M1 0 4 = M 0 4 := by rw [hq 0 (by omega)]
    have e2 : M1 2 = M 2 := hq 2 (by omega)
    refine ⟨_, rfl, _, c_X6_round l G M1 n (by rw [e4]; exact hn) hn6 (by rw [e0]; exact ht), fun v2 M2 h2 => ?_⟩
    rcases h2 with ⟨y0, rfl, hr⟩ | ⟨y0, rfl, hr⟩
    · exact ⟨rfl, ⟨_, _, _, _, _, hI.q hq (by rw [hr]; exact qm.refl _)⟩⟩
    · exact absurd y0 (by omega)
  · have hq : fpc M M1 := hq
    have e4 : M1 4 = M 4 := hq 4 (by omega)
    have e0 : M1 0 4 = M 0 4 := by rw [hq 0 (by omega)]
    have e2 : M1 2 = M 2 := hq 2 (by omega)
    refine ⟨_, rfl, _, c_X6_round l G M1 n (by rw [e4]; exact hn) hn6 (by rw [e0]; exact ht), fun v2 M2 h2 => ?_⟩
    rcases h2 with ⟨y0, rfl, hr⟩ | ⟨y0, rfl, hr⟩
    · exact absurd y0 (by omega)
    · exact ⟨by rw [e4], ⟨_, _, _, _, _, hI.q hq (by rw [hr]; exact qm.refl _)⟩⟩
set_option maxHeartbeats 4000000 in
theorem s_calm (l : Launch) (G : Gx) (M : Mem) (h : Inv M) : LwS (Con l G yX5_calm cX5_calm 2 (some .int) 3 107 [.ref (gA G 14)] M) (fun M1 => Con l G yX6_calm cX6_calm 4 (some .int) 6 134 [.ref (gA G 0)] M1) := by
  obtain ⟨n, a, b, t, w, hI⟩ := h
  obtain ⟨⟨hm, hR, ht⟩, hW, hT, h4, hH, hG, hX, hE⟩ := id hI
  have hn := hR.2.1
  have hn6 := hR.1
  refine ⟨_, c_X5_calm l G M (M 4) n hm hR, fun v M1 h1 => ?_⟩
  rcases h1 with ⟨z0, rfl, hq⟩ | ⟨z0, u1, hu1, rfl, hq⟩
  · have hq : fpc M M1 := by rw [hq]; exact fpc.refl M
    have e4 : M1 4 = M 4 := hq 4 (by omega)
    have e0 : M1 0 4 = M 0 4 := by rw [hq 0 (by omega)]
    have e2 : M1 2 = M 2 := hq 2 (by omega)
    refine ⟨_, rfl, _, c_X6_calm l G M1 n (by rw [e4]; exact hn) hn6 (by rw [e0]; exact ht), fun v2 M2 h2 => ?_⟩
    rcases h2 with ⟨y0, rfl, hr⟩ | ⟨y0, u2, hu2, rfl, hr⟩
    · exact ⟨rfl, ⟨_, _, _, _, _, hI.q hq (by rw [hr]; exact qm.refl _)⟩⟩
    · exact absurd y0 (by omega)
  · have hq : fpc M M1 := hq
    have e4 : M1 4 = M 4 := hq 4 (by omega)
    have e0 : M1 0 4 = M 0 4 := by rw [hq 0 (by omega)]
    have e2 : M1 2 = M 2 := hq 2 (by omega)
    refine ⟨_, rfl, _, c_X6_calm l G M1 n (by rw [e4]; exact hn) hn6 (by rw [e0]; exact ht), fun v2 M2 h2 => ?_⟩
    rcases h2 with ⟨y0, rfl, hr⟩ | ⟨y0, u2, hu2, rfl, hr⟩
    · exact absurd y0 (by omega)
    · rw [e4] at hu2
      obtain rfl := fst_u hu1 hu2
      exact ⟨rfl, ⟨_, _, _, _, _, hI.q hq hr⟩⟩
set_option maxHeartbeats 4000000 in
theorem s_cushionFor (l : Launch) (G : Gx) (M : Mem) (x y z : Int32) (h : Inv M) : LwS (Con l G yX5_cushionFor cX5_cushionFor 5 (some .int) 4 129 [.ref (gA G 14), .int x, .int y, .int z] M) (fun M1 => Con l G yX6_cushionFor cX6_cushionFor 6 (some .int) 8 179 [.ref (gA G 0), .int x, .int y, .int z] M1) := by
  obtain ⟨n, a, b, t, w, hI⟩ := h
  obtain ⟨⟨hm, hR, ht⟩, hW, hT, h4, hH, hG, hX, hE⟩ := id hI
  have hn := hR.2.1
  have hn6 := hR.1
  refine ⟨_, c_X5_cushionFor l G M x y z (M 4) n hm hR, fun v M1 h1 => ?_⟩
  rcases h1 with ⟨g1, rfl, hq⟩ | ⟨p0, p1, p2, hb0, hb1, hb2, eq0, eq1, eq2, u1, hu1, rfl, hq⟩
  · have hq : fpc M M1 := by rw [hq]; exact fpc.refl M
    have e4 : M1 4 = M 4 := hq 4 (by omega)
    have e0 : M1 0 4 = M 0 4 := by rw [hq 0 (by omega)]
    have e2 : M1 2 = M 2 := hq 2 (by omega)
    refine ⟨_, rfl, _, c_X6_cushionFor l G M1 x y z n (by rw [e4]; exact hn) hn6, fun v2 M2 h2 => ?_⟩
    rcases h2 with ⟨g2, rfl, hr⟩ | ⟨p0x, p1x, p2x, hb0x, hb1x, hb2x, eq0x, eq1x, eq2x, u2, hu2, rfl, hr⟩
    · exact ⟨rfl, ⟨_, _, _, _, _, hI.q hq (by rw [hr]; exact qm.refl _)⟩⟩
    · exact absurd ⟨⟨p0x, hb0x, eq0x⟩, ⟨p1x, Nat.zero_le _, hb1x, eq1x⟩, ⟨p2x, Nat.zero_le _, hb2x, eq2x⟩⟩ g1
  · have hq : fpc M M1 := hq
    have e4 : M1 4 = M 4 := hq 4 (by omega)
    have e0 : M1 0 4 = M 0 4 := by rw [hq 0 (by omega)]
    have e2 : M1 2 = M 2 := hq 2 (by omega)
    refine ⟨_, rfl, _, c_X6_cushionFor l G M1 x y z n (by rw [e4]; exact hn) hn6, fun v2 M2 h2 => ?_⟩
    rcases h2 with ⟨g2, rfl, hr⟩ | ⟨p0x, p1x, p2x, hb0x, hb1x, hb2x, eq0x, eq1x, eq2x, u2, hu2, rfl, hr⟩
    · exact absurd ⟨⟨p0, hb0, eq0⟩, ⟨p1, Nat.zero_le _, hb1, eq1⟩, ⟨p2, Nat.zero_le _, hb2, eq2⟩⟩ g2
    · obtain rfl : p0 = p0x := (nI_eq (by omega) (by omega)).mp (eq0.symm.trans eq0x)
      obtain rfl : p1 = p1x := (nI_eq (by omega) (by omega)).mp (eq1.symm.trans eq1x)
      obtain rfl : p2 = p2x := (nI_eq (by omega) (by omega)).mp (eq2.symm.trans eq2x)
      rw [e4] at hu2
      obtain rfl := fst_u hu1 hu2
      exact ⟨rfl, ⟨_, _, _, _, _, hI.q hq hr⟩⟩
