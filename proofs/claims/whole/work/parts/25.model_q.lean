abbrev isS (T : Nat → Int32) (b p c : Nat) : Prop := p < b ∧ T p = nI c
def vlN (T : Nat → Int32) (p d : Nat) : Nat := if d = 1 then (T p).toNatClampNeg - 48 else ((T p).toNatClampNeg - 48) * 10 + ((T (p + 1)).toNatClampNeg - 48)
theorem isDg_n {T : Nat → Int32} {p : Nat} (h : isDg T p = true) : ∃ x, 48 ≤ x ∧ x ≤ 57 ∧ T p = nI x := by
  obtain ⟨q, h1, h2, h3⟩ := rg_mp (of_decide_eq_true h) (by omega) (by omega)
  exact ⟨q, h1, h2, h3⟩
theorem valF_v {T : Nat → Int32} {p d : Nat} (h : ∀ i, i < d → isDg T (p + i) = true) (h1 : 1 ≤ d) (h2 : d ≤ 2) : valF T p d = nI (vlN T p d) ∧ vlN T p d < 100 := by
  obtain ⟨x, hx1, hx2, hx⟩ := isDg_n (show isDg T p = true from h 0 (by omega))
  have e0 : valF T p 1 = nI (x - 48) := by
    show (if nI 0 ≤ nI 99 then nI 10 * nI 0 + T (p + 0) - nI 48 else nI 0) = _
    rw [if_pos (by decide), Nat.add_zero, hx, pk_mul, nI_add, pk_sub (by omega)]
    congr 1
    omega
  have ex : (T p).toNatClampNeg = x := by rw [hx, nI_clamp (by omega)]
  rcases (show d = 1 ∨ d = 2 by omega) with rfl | rfl
  · rw [e0, vlN, if_pos rfl, ex]
    exact ⟨rfl, by omega⟩
  · obtain ⟨y, hy1, hy2, hy⟩ := isDg_n (h 1 (by omega))
    have ey : (T (p + 1)).toNatClampNeg = y := by rw [hy, nI_clamp (by omega)]
    rw [valF, e0, if_pos (nI_le (by omega) (by omega)), hy, pk_mul, nI_add, pk_sub (by omega), vlN, if_neg (by omega), ex, ey]
    refine ⟨?_, by omega⟩
    congr 1
    omega
/-- a number within bounds and a sign behind it: .inl (place, fault), or .inr (number, place behind) -/
def nmO (T : Nat → Int32) (b p lo hi sg : Nat) : (Nat × Nat) ⊕ (Nat × Nat) :=
  if 1 ≤ dgL T b p ∧ dgL T b p ≤ 2 then (if lo ≤ vlN T p (dgL T b p) ∧ vlN T p (dgL T b p) ≤ hi then (if isS T b (p + dgL T b p) sg then .inr (vlN T p (dgL T b p), p + dgL T b p + 1) else .inl (p + dgL T b p, 1)) else .inl (p, 2)) else .inl (p, 1)
def frP (M N : Mem) : Prop := (∀ q, q ≠ 0 → q ≠ 7 → N q = M q) ∧ ∀ j, j < 10 ∨ 14 < j → N 0 j = M 0 j
theorem frN.P {M N : Mem} (h : frN M N) : frP M N := ⟨fun q h1 _ => h.1 q h1, fun j hj => h.2 j (by omega)⟩
theorem frP.trans {M N K : Mem} (h : frP M N) (g : frP N K) : frP M K := ⟨fun q h1 h2 => (g.1 q h1 h2).trans (h.1 q h1 h2), fun j hj => (g.2 j hj).trans (h.2 j hj)⟩
theorem frP.refl (M : Mem) : frP M M := ⟨fun _ _ _ => rfl, fun _ _ => rfl⟩
theorem frP.p14 (M : Mem) (v : Int32) : frP M (mset M 0 14 v) := ⟨fun q h1 _ => mset_ne _ _ _ h1, fun j hj => by rw [mset_eq, pk_un (by omega)]⟩
theorem frP.p7 (M : Mem) (i : Nat) (v : Int32) : frP M (mset M 7 i v) := ⟨fun q _ h2 => mset_ne _ _ _ h2, fun j _ => by rw [mset_ne _ _ _ (by decide)]⟩
theorem pos_let {N : Mem} {b p c : Nat} (h : pos N b p) (hc : ltr (nI c)) (h8 : c < 128) (hd : c < 48 ∨ 57 < c) (hb : b ≤ 120) : (N 0 11 = nI 1 ∧ N 0 12 = nI c) ↔ isS (N 6) b p c := by
  obtain ⟨h13, ⟨h1, h2, -, -⟩ | ⟨h1, h2, h3, -⟩ | ⟨h1, h2, h3, h4, -⟩⟩ := h
  · constructor
    · rintro ⟨z, -⟩
      rw [h2] at z
      split at z
      · exact absurd z (by decide)
      · exact absurd z (by decide)
    · rintro ⟨z1, z2⟩
      obtain ⟨x, hx1, hx2, hx⟩ := isDg_n (dgF_all (N 6) (b - p) p 0 h1)
      rw [Nat.add_zero, z2] at hx
      have := (nI_eq (by omega) (by omega)).mp hx
      omega
  · constructor
    · rintro ⟨z, -⟩
      rw [h3] at z
      exact absurd z (by decide)
    · rintro ⟨z1, -⟩
      omega
  · rw [h3, h4]
    constructor
    · rintro ⟨-, z⟩
      exact ⟨h2, z⟩
    · rintro ⟨-, z⟩
      rw [z, if_pos hc]
      exact ⟨rfl, rfl⟩
theorem pos_let2 {N : Mem} {b p c : Nat} (h : pos N b p) (h8 : c < 128) (hd : c < 48 ∨ 57 < c) (hs : isS (N 6) b p c) : N 0 10 = nI (p + 1) := by
  obtain ⟨h13, ⟨h1, h2, -, -⟩ | ⟨h1, h2, h3, -⟩ | ⟨h1, h2, h3, h4, h5⟩⟩ := h
  · obtain ⟨x, hx1, hx2, hx⟩ := isDg_n (dgF_all (N 6) (b - p) p 0 h1)
    rw [Nat.add_zero, hs.2] at hx
    have := (nI_eq (by omega) (by omega)).mp hx
    omega
  · have := hs.1
    omega
  · exact h5
theorem pos_num {N : Mem} {b p : Nat} (h : pos N b p) : (N 0 11 = nI 2 ↔ (1 ≤ dgL (N 6) b p ∧ dgL (N 6) b p ≤ 2)) ∧ ((1 ≤ dgL (N 6) b p ∧ dgL (N 6) b p ≤ 2) → N 0 12 = nI (vlN (N 6) p (dgL (N 6) b p)) ∧ vlN (N 6) p (dgL (N 6) b p) < 100 ∧ N 0 10 = nI (p + dgL (N 6) b p)) := by
  obtain ⟨h13, ⟨h1, h2, h3, h4⟩ | ⟨h1, h2, h3, -⟩ | ⟨h1, h2, h3, h4, h5⟩⟩ := h
  · refine ⟨?_, fun z => ?_⟩
    · rw [h2]
      constructor
      · intro z
        split at z
        · exact ⟨h1, by assumption⟩
        · exact absurd z (by decide)
      · rintro ⟨-, z⟩
        rw [if_pos z]
    · have hv := valF_v (dgF_all (N 6) (b - p) p) z.1 z.2
      exact ⟨h3.trans hv.1, hv.2, h4⟩
  · refine ⟨?_, fun z => by omega⟩
    rw [h3]
    constructor
    · intro z; exact absurd z (by decide)
    · intro z; omega
  · refine ⟨?_, fun z => by omega⟩
    rw [h3]
    constructor
    · intro z
      split at z
      · exact absurd z (by decide)
      · exact absurd z (by decide)
    · intro z; omega
set_option maxHeartbeats 4000000 in
set_option maxRecDepth 100000 in
theorem c_X6_faults (l : Launch) (G : Gx) (M : Mem) (v : Int32) : Con l G yX6_faults cX6_faults 2 (some .boolean) 0 0 [.ref (gA G 0), .int v] M (rI (nI 0) (mset M 0 14 v)) := by
  refine Con.ofV [some (.ref (gA G 0)), some (.int v)] RX6 (by decide) rfl (Nat.le_of_ble_eq_true rfl) rfl ?_
  intro κ hl hG hk0 hn0
  subst hl hG
  have hcs : κ.k ≤ 0 ∧ κ.n ≤ 0 := ⟨Nat.le_of_eq hk0, Nat.le_of_eq hn0⟩
  refine r_aload_n (pc := 0) dX6_faults_0 rfl ?_
  refine r_iload_n (pc := 1) dX6_faults_1 rfl ?_
  refine pf_X6_105 (pc := 2) dX6_faults_2 rfl ?_
  refine r_iconst (v := nI 0) (pc := 5) dX6_faults_5 (by decide) ?_
  exact r_zret (pc := 6) dX6_faults_6 rfl (by first | rfl | exact bI_narrow) ⟨rfl, rfl⟩
set_option maxHeartbeats 4000000 in
set_option maxRecDepth 100000 in
theorem c_X6_isLetter (l : Launch) (G : Gx) (M : Mem) (c : Int32) : Con l G yX6_isLetter cX6_isLetter 2 (some .boolean) 0 0 [.ref (gA G 0), .int c] M (rI (bI (M 0 11 = nI 1 ∧ M 0 12 = c)) M) := by
  refine Con.ofV [some (.ref (gA G 0)), some (.int c)] RX6 (by decide) rfl (Nat.le_of_ble_eq_true rfl) rfl ?_
  intro κ hl hG hk0 hn0
  subst hl hG
  have hcs : κ.k ≤ 0 ∧ κ.n ≤ 0 := ⟨Nat.le_of_eq hk0, Nat.le_of_eq hn0⟩
  refine r_aload_n (pc := 0) dX6_isLetter_0 rfl ?_
  refine gf_X6_91 (pc := 1) dX6_isLetter_1 rfl ?_
  refine r_iconst (v := nI 1) (pc := 4) dX6_isLetter_4 (by decide) ?_
  refine r_icmp_ne (tgt := 20) (pc := 5) dX6_isLetter_5 (by decide) (fun h5 => ?_) (fun h5 => ?_)
  · have hp : ¬ (M 0 11 = nI 1 ∧ M 0 12 = c) := fun z => h5 z.1
    refine r_iconst (v := nI 0) (pc := 20) dX6_isLetter_20 (by decide) ?_
    exact r_zret (pc := 21) dX6_isLetter_21 rfl (by first | rfl | exact bI_narrow) (by first | exact rI_1 hp | exact rI_0 hp)
  · refine r_aload_n (pc := 8) dX6_isLetter_8 rfl ?_
    refine gf_X6_94 (pc := 9) dX6_isLetter_9 rfl ?_
    refine r_iload_n (pc := 12) dX6_isLetter_12 rfl ?_
    refine r_icmp_ne (tgt := 20) (pc := 13) dX6_isLetter_13 (by decide) (fun h13 => ?_) (fun h13 => ?_)
    · have hp : ¬ (M 0 11 = nI 1 ∧ M 0 12 = c) := fun z => h13 z.2
      refine r_iconst (v := nI 0) (pc := 20) dX6_isLetter_20 (by decide) ?_
      exact r_zret (pc := 21) dX6_isLetter_21 rfl (by first | rfl | exact bI_narrow) (by first | exact rI_1 hp | exact rI_0 hp)
    · have hp : M 0 11 = nI 1 ∧ M 0 12 = c := ⟨h5, h13⟩
      refine r_iconst (v := nI 1) (pc := 16) dX6_isLetter_16 (by decide) ?_
      refine r_goto (tgt := 21) (pc := 17) dX6_isLetter_17 (by decide) ?_
      exact r_zret (pc := 21) dX6_isLetter_21 rfl (by first | rfl | exact bI_narrow) (by first | exact rI_1 hp | exact rI_0 hp)
set_option maxHeartbeats 4000000 in
set_option maxRecDepth 100000 in
theorem c_X6_takes (l : Launch) (G : Gx) (M : Mem) (p b c : Nat) (hpos : pos M b p) (hb : M 0 8 = nI b) (hpb : p ≤ b) (hb120 : b ≤ 120) (hc : ltr (nI c)) (h8 : c < 128) (hd : c < 48 ∨ 57 < c) : Con l G yX6_takes cX6_takes 2 (some .boolean) 2 45 [.ref (gA G 0), .int (nI c)] M (qI (bI (isS (M 6) b p c)) (fun N5 => (isS (M 6) b p c → frN M N5 ∧ pos N5 b (p + 1)) ∧ (¬ isS (M 6) b p c → N5 = mset M 0 14 (nI 1)))) := by
  refine Con.ofV [some (.ref (gA G 0)), some (.int (nI c))] RX6 (by decide) rfl (Nat.le_of_ble_eq_true rfl) rfl ?_
  intro κ hl hG hk0 hn0
  subst hl hG
  have hcs : κ.k ≤ 0 ∧ κ.n ≤ 0 := ⟨Nat.le_of_eq hk0, Nat.le_of_eq hn0⟩
  refine r_aload_n (pc := 0) dX6_takes_0 rfl ?_
  refine r_iload_n (pc := 1) dX6_takes_1 rfl ?_
  refine iv_X6_108 (c_X6_isLetter _ _ _ _) (pc := 2) dX6_takes_2 rfl ⟨Nat.le_of_ble_eq_true rfl, Nat.le_of_ble_eq_true rfl⟩ (Nat.le_of_ble_eq_true rfl) hcs (kI ?_)
  refine r_ifne_b (tgt := 14) (pc := 5) dX6_takes_5 (by decide) (fun h5 => ?_) (fun h5 => ?_)
  · have hs : isS (M 6) b p c := (pos_let hpos hc h8 hd hb120).mp h5
    refine r_aload_n (pc := 14) dX6_takes_14 rfl ?_
    refine iv_X6_114 (c_X6_nextToken _ _ _ (p + 1) b (pos_let2 hpos h8 hd hs) hb hs.1 hb120) (pc := 15) dX6_takes_15 rfl ⟨Nat.le_of_ble_eq_true rfl, Nat.le_of_ble_eq_true rfl⟩ (Nat.le_of_ble_eq_true rfl) hcs (kqV (fun N15 r15 => ?_))
    refine r_iconst (v := nI 1) (pc := 18) dX6_takes_18 (by decide) ?_
    exact r_zret (pc := 19) dX6_takes_19 rfl (by first | rfl | exact bI_narrow) ⟨by rw [bI_t hs], fun _ => r15, fun z => absurd hs z⟩
  · have hs : ¬ isS (M 6) b p c := fun z => h5 ((pos_let hpos hc h8 hd hb120).mpr z)
    refine r_aload_n (pc := 8) dX6_takes_8 rfl ?_
    refine r_iconst (v := nI 1) (pc := 9) dX6_takes_9 (by decide) ?_
    refine iv_X6_111 (c_X6_faults _ _ _ _) (pc := 10) dX6_takes_10 rfl ⟨Nat.le_of_ble_eq_true rfl, Nat.le_of_ble_eq_true rfl⟩ (Nat.le_of_ble_eq_true rfl) hcs (kI ?_)
    exact r_zret (pc := 13) dX6_takes_13 rfl (by first | rfl | exact bI_narrow) ⟨by rw [bI_f hs], fun z => absurd z hs, fun _ => rfl⟩
set_option maxHeartbeats 4000000 in
set_option maxRecDepth 100000 in
theorem c_X6_takesNumber (l : Launch) (G : Gx) (M : Mem) (p b lo hi at1 sg : Nat) (hpos : pos M b p) (hb : M 0 8 = nI b) (hpb : p ≤ b) (hb120 : b ≤ 120) (hlo : lo < 100) (hhi : hi < 100) (hat : at1 < 41) (hc : ltr (nI sg)) (h8 : sg < 128) (hd : sg < 48 ∨ 57 < sg) : Con l G yX6_takesNumber cX6_takesNumber 5 (some .boolean) 3 66 [.ref (gA G 0), .int (nI lo), .int (nI hi), .int (nI at1), .int (nI sg)] M (qI (bI ((nmO (M 6) b p lo hi sg).isRight = true)) (fun N5 => frP M N5 ∧ (∀ v p2, nmO (M 6) b p lo hi sg = .inr (v, p2) → N5 7 = upd (M 7) at1 (nI v) ∧ pos N5 b p2 ∧ p2 ≤ b) ∧ (∀ pl w, nmO (M 6) b p lo hi sg = .inl (pl, w) → N5 0 13 = nI pl ∧ N5 0 14 = nI w))) := by
  refine Con.ofV [some (.ref (gA G 0)), some (.int (nI lo)), some (.int (nI hi)), some (.int (nI at1)), some (.int (nI sg))] RX6 (by decide) rfl (Nat.le_of_ble_eq_true rfl) rfl ?_
  intro κ hl hG hk0 hn0
  subst hl hG
  have hcs : κ.k ≤ 0 ∧ κ.n ≤ 0 := ⟨Nat.le_of_eq hk0, Nat.le_of_eq hn0⟩
  have hn := pos_num hpos
  refine r_aload_n (pc := 0) dX6_takesNumber_0 rfl ?_
  refine gf_X6_91 (pc := 1) dX6_takesNumber_1 rfl ?_
  refine r_iconst (v := nI 2) (pc := 4) dX6_takesNumber_4 (by decide) ?_
  refine r_icmp_ne (tgt := 23) (pc := 5) dX6_takesNumber_5 (by decide) (fun h5 => ?_) (fun h5 => ?_)
  · have hd0 : ¬ (1 ≤ dgL (M 6) b p ∧ dgL (M 6) b p ≤ 2) := fun z => h5 (hn.1.mpr z)
    have e9 : nmO (M 6) b p lo hi sg = .inl (p, 1) := if_neg hd0
    refine r_aload_n (pc := 23) dX6_takesNumber_23 rfl ?_
    refine r_aload_n (pc := 24) dX6_takesNumber_24 rfl ?_
    refine gf_X6_91 (pc := 25) dX6_takesNumber_25 rfl ?_
    refine r_iconst (v := nI 2) (pc := 28) dX6_takesNumber_28 (by decide) ?_
    refine t_icmp_ne (tgt := 36) (J := 37) (a := ?pA29x1) (b := ?pB29x1) (pc := 29) dX6_takesNumber_29 (by decide) (fun k29x1 => ?pT29x1) (fun k29x1 => ?pF29x1) ?pK29x1
    case pT29x1 =>
      refine r_iconst (v := nI 1) (pc := 36) dX6_takesNumber_36 (by decide) ?_
      exact k29x1
    case pF29x1 =>
      refine r_iconst (v := nI 2) (pc := 32) dX6_takesNumber_32 (by decide) ?_
      refine r_goto (tgt := 37) (pc := 33) dX6_takesNumber_33 (by decide) ?_
      exact k29x1
    case pK29x1 =>
      refine iv_X6_111 (c_X6_faults _ _ _ _) (pc := 37) dX6_takesNumber_37 rfl ⟨Nat.le_of_ble_eq_true rfl, Nat.le_of_ble_eq_true rfl⟩ (Nat.le_of_ble_eq_true rfl) hcs (kI ?_)
      exact r_zret (pc := 40) dX6_takesNumber_40 rfl (by first | rfl | exact bI_narrow) ⟨by rw [bI_f (by rw [e9]; intro z; cases z)], frP.p14 _ _, fun v p2 z => (by rw [e9] at z; cases z), fun pl w z => (by rw [e9] at z; cases z; exact ⟨hpos.1, by rw [mset_eq, pk_us]; first | exact if_neg h5 | exact if_pos h5⟩)⟩
  · have hd0 : 1 ≤ dgL (M 6) b p ∧ dgL (M 6) b p ≤ 2 := hn.1.mp h5
    have hv := hn.2 hd0
    refine r_aload_n (pc := 8) dX6_takesNumber_8 rfl ?_
    refine gf_X6_94 (pc := 9) dX6_takesNumber_9 rfl ?_
    refine r_i2l (pc := 12) dX6_takesNumber_12 ?_
    refine r_iload_n (pc := 13) dX6_takesNumber_13 rfl ?_
    refine r_i2l (pc := 14) dX6_takesNumber_14 ?_
    refine r_iload_n (pc := 15) dX6_takesNumber_15 rfl ?_
    refine r_i2l (pc := 16) dX6_takesNumber_16 ?_
    refine iv_X6_57 (c_X6_inI _ _ _ _ _ _) (pc := 17) dX6_takesNumber_17 ⟨Nat.le_of_ble_eq_true rfl, Nat.le_of_ble_eq_true rfl⟩ (Nat.le_of_ble_eq_true rfl) hcs (kI ?_)
    refine r_ifne_b (tgt := 41) (pc := 20) dX6_takesNumber_20 (by decide) (fun h20 => ?_) (fun h20 => ?_)
    · have hr : lo ≤ vlN (M 6) p (dgL (M 6) b p) ∧ vlN (M 6) p (dgL (M 6) b p) ≤ hi := by rw [hv.1] at h20; exact ⟨(nI_leI (by omega) (by omega)).mp h20.1, (nI_leI (by omega) (by omega)).mp h20.2⟩
      have hle := dgL_le (T := M 6) hpb
      refine r_aload_n (pc := 41) dX6_takesNumber_41 rfl ?_
      refine gf_X6_28 (pc := 42) dX6_takesNumber_42 rfl ?_
      refine r_iload_n (pc := 45) dX6_takesNumber_45 rfl ?_
      refine r_aload_n (pc := 46) dX6_takesNumber_46 rfl ?_
      refine gf_X6_94 (pc := 47) dX6_takesNumber_47 rfl ?_
      refine r_is (nI (vlN (M 6) p (dgL (M 6) b p))) hv.1 ?_
      refine r_iast (pc := 50) dX6_takesNumber_50 rfl (show _ < 41 by omega) ?_
      refine r_aload_n (pc := 51) dX6_takesNumber_51 rfl ?_
      refine iv_X6_114 (c_X6_nextToken _ _ _ (p + dgL (M 6) b p) b hv.2.2 hb hle hb120) (pc := 52) dX6_takesNumber_52 rfl ⟨Nat.le_of_ble_eq_true rfl, Nat.le_of_ble_eq_true rfl⟩ (Nat.le_of_ble_eq_true rfl) hcs (kqV (fun N52 r52 => ?_))
      obtain ⟨f52, p52⟩ := r52
      have h6 : N52 6 = M 6 := f52.1 6 (by decide)
      refine r_aload_n (pc := 55) dX6_takesNumber_55 rfl ?_
      refine r_iload (pc := 56) dX6_takesNumber_56 rfl ?_
      refine iv_X6_117 (c_X6_takes _ _ _ (p + dgL (M 6) b p) b sg p52 ((f52.2 8 (by omega)).trans hb) hle hb120 hc h8 hd) (pc := 58) dX6_takesNumber_58 rfl ⟨Nat.le_of_ble_eq_true rfl, Nat.le_of_ble_eq_true rfl⟩ (Nat.le_of_ble_eq_true rfl) hcs (kqI (fun N58 r58 => ?_))
      exact r_zret (pc := 61) dX6_takesNumber_61 rfl (by first | rfl | exact bI_narrow) (by
            rw [h6] at r58 ⊢
            by_cases hs : isS (M 6) b (p + dgL (M 6) b p) sg
            · have e9 : nmO (M 6) b p lo hi sg = .inr (vlN (M 6) p (dgL (M 6) b p), p + dgL (M 6) b p + 1) := by rw [nmO, if_pos hd0, if_pos hr, if_pos hs]
              obtain ⟨f58, p58⟩ := r58.1 hs
              refine ⟨by rw [bI_t hs, bI_t (by rw [e9]; rfl)], ((frP.p7 M _ _).trans f52.P).trans f58.P, fun v p2 z => ?_, fun pl w z => (by rw [e9] at z; cases z)⟩
              rw [e9] at z
              cases z
              exact ⟨by rw [f58.1 7 (by decide), f52.1 7 (by decide), mset_eq], p58, hs.1⟩
            · have e9 : nmO (M 6) b p lo hi sg = .inl (p + dgL (M 6) b p, 1) := by rw [nmO, if_pos hd0, if_pos hr, if_neg hs]
              have h58 := r58.2 hs
              subst h58
              refine ⟨by rw [bI_f hs, bI_f (by rw [e9]; intro z; cases z)], ((frP.p7 M _ _).trans f52.P).trans (frP.p14 _ _), fun v p2 z => (by rw [e9] at z; cases z), fun pl w z => ?_⟩
              rw [e9] at z
              cases z
              exact ⟨p52.1, rfl⟩)
    · have hr : ¬ (lo ≤ vlN (M 6) p (dgL (M 6) b p) ∧ vlN (M 6) p (dgL (M 6) b p) ≤ hi) := fun z => h20 (by rw [hv.1]; exact ⟨nI_le z.1 (by omega), nI_le z.2 (by omega)⟩)
      have e9 : nmO (M 6) b p lo hi sg = .inl (p, 2) := by rw [nmO, if_pos hd0, if_neg hr]
      refine r_aload_n (pc := 23) dX6_takesNumber_23 rfl ?_
      refine r_aload_n (pc := 24) dX6_takesNumber_24 rfl ?_
      refine gf_X6_91 (pc := 25) dX6_takesNumber_25 rfl ?_
      refine r_iconst (v := nI 2) (pc := 28) dX6_takesNumber_28 (by decide) ?_
      refine t_icmp_ne (tgt := 36) (J := 37) (a := ?pA29x2) (b := ?pB29x2) (pc := 29) dX6_takesNumber_29 (by decide) (fun k29x2 => ?pT29x2) (fun k29x2 => ?pF29x2) ?pK29x2
      case pT29x2 =>
        refine r_iconst (v := nI 1) (pc := 36) dX6_takesNumber_36 (by decide) ?_
        exact k29x2
      case pF29x2 =>
        refine r_iconst (v := nI 2) (pc := 32) dX6_takesNumber_32 (by decide) ?_
        refine r_goto (tgt := 37) (pc := 33) dX6_takesNumber_33 (by decide) ?_
        exact k29x2
      case pK29x2 =>
        refine iv_X6_111 (c_X6_faults _ _ _ _) (pc := 37) dX6_takesNumber_37 rfl ⟨Nat.le_of_ble_eq_true rfl, Nat.le_of_ble_eq_true rfl⟩ (Nat.le_of_ble_eq_true rfl) hcs (kI ?_)
        exact r_zret (pc := 40) dX6_takesNumber_40 rfl (by first | rfl | exact bI_narrow) ⟨by rw [bI_f (by rw [e9]; intro z; cases z)], frP.p14 _ _, fun v p2 z => (by rw [e9] at z; cases z), fun pl w z => (by rw [e9] at z; cases z; exact ⟨hpos.1, by rw [mset_eq, pk_us]; first | exact if_neg h5 | exact if_pos h5⟩)⟩
