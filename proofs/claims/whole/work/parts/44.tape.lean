theorem mset_self {M : Mem} {q i : Nat} {v : Int32} (h : M q i = v) : mset M q i v = M := by
  subst h
  funext r
  by_cases e : r = q
  · subst e
    rw [mset_eq]
    funext j
    by_cases z : j = i
    · subst z; rw [pk_us]
    · rw [pk_un z]
  · rw [mset_ne _ _ _ e]
def cvF (T : Nat → Int32) (p : Nat) : Nat → Int32
  | 0 => nI 0
  | j + 1 => cvF T p j * nI 10 + T (p + j) - nI 48
theorem cvF_v {T : Nat → Int32} {p d : Nat} (h : ∀ i, i < d → isDg T (p + i) = true) (h1 : 1 ≤ d) (h2 : d ≤ 2) : cvF T p d = nI (vlN T p d) ∧ vlN T p d < 100 := by
  obtain ⟨x, hx1, hx2, hx⟩ := isDg_n (show isDg T p = true from h 0 (by omega))
  have e0 : cvF T p 1 = nI (x - 48) := by
    show nI 0 * nI 10 + T (p + 0) - nI 48 = _
    rw [Nat.add_zero, hx, pk_mul, nI_add, pk_sub (by omega)]
    congr 1
    omega
  have ex : (T p).toNatClampNeg = x := by rw [hx, nI_clamp (by omega)]
  rcases (show d = 1 ∨ d = 2 by omega) with rfl | rfl
  · rw [e0, vlN, if_pos rfl, ex]
    exact ⟨rfl, by omega⟩
  · obtain ⟨y, hy1, hy2, hy⟩ := isDg_n (h 1 (by omega))
    have ey : (T (p + 1)).toNatClampNeg = y := by rw [hy, nI_clamp (by omega)]
    rw [cvF, e0, hy, pk_mul, nI_add, pk_sub (by omega), vlN, if_neg (by omega), ex, ey]
    refine ⟨?_, by omega⟩
    congr 1
    omega
theorem dgF_ge (T : Nat → Int32) : ∀ (j p f : Nat), (∀ i, i < j → isDg T (p + i) = true) → j ≤ f → j ≤ dgF T p f
  | 0, _, _, _, _ => Nat.zero_le _
  | j + 1, p, f, h, hf => by
    cases f with
    | zero => omega
    | succ f =>
      rw [dgF, if_pos (show isDg T p = true from h 0 (by omega))]
      have := dgF_ge T j (p + 1) f (fun i hi => by rw [show p + 1 + i = p + (i + 1) by omega]; exact h (i + 1) (by omega)) (by omega)
      omega
theorem dg_e {T : Nat → Int32} {b p j : Nat} (h : ∀ i, i < j → isDg T (p + i) = true) (hj : p + j ≤ b) (hj3 : j ≤ 3) (he : p + j = b ∨ j = 3 ∨ ¬ isDg T (p + j) = true) : (j = dgL T b p ∧ j ≤ 2) ∨ (j = 3 ∧ 3 ≤ dgL T b p) := by
  by_cases z : j = 3
  · subst z
    exact Or.inr ⟨rfl, dgF_ge T 3 p (b - p) h (by omega)⟩
  · refine Or.inl ⟨(dgL_eq h hj ?_).symm, by omega⟩
    rcases he with y | y | y
    · exact Or.inl y
    · exact absurd y z
    · exact Or.inr y
def tnO (T : Nat → Int32) (b p f lo hi : Nat) : Nat × Nat × Nat := if f = 0 then (if 1 ≤ dgL T b p ∧ dgL T b p ≤ 2 then (if lo ≤ vlN T p (dgL T b p) ∧ vlN T p (dgL T b p) ≤ hi then (vlN T p (dgL T b p), p + dgL T b p, 0) else (0, p, 2)) else (0, p, 1)) else (0, p, f)
def tsO (T : Nat → Int32) (b p f sg : Nat) : Nat × Nat := if f = 0 then (if isS T b p sg then (p + 1, 0) else (p, 1)) else (p, f)
def tpM (M : Mem) (x : Nat × Nat) : Mem := mset (mset M 16 2 (nI x.1)) 16 3 (nI x.2)
theorem tpM_2 {M : Mem} {p f : Nat} (h : M 16 3 = nI f) : mset M 16 2 (nI p) = tpM M (p, f) := (mset_self (by rw [mset_eq, pk_un (by decide)]; exact h)).symm
theorem tpM_3 {M : Mem} {p f : Nat} (h : M 16 2 = nI p) : mset M 16 3 (nI f) = tpM M (p, f) := by
  unfold tpM
  rw [mset_self (M := M) (q := 16) (i := 2) h]
theorem tpM_id {M : Mem} {p f : Nat} (h : M 16 2 = nI p) (h2 : M 16 3 = nI f) : M = tpM M (p, f) := by
  rw [← tpM_3 h, mset_self h2]
theorem tsO_le {T : Nat → Int32} {b p f sg : Nat} (h : p ≤ b) : (tsO T b p f sg).1 ≤ b := by
  unfold tsO
  split
  · split
    · rename_i hs; exact hs.1
    · exact h
  · exact h
theorem tnO_le {T : Nat → Int32} {b p f lo hi : Nat} (h : p ≤ b) : (tnO T b p f lo hi).2.1 ≤ b := by
  unfold tnO
  split
  · split
    · split
      · exact dgL_le h
      · exact h
    · exact h
  · exact h
theorem tsO_f {T : Nat → Int32} {b p f sg : Nat} (h : f ≠ 0) : tsO T b p f sg = (p, f) := if_neg h
theorem tnO_f {T : Nat → Int32} {b p f lo hi : Nat} (h : f ≠ 0) : tnO T b p f lo hi = (0, p, f) := if_neg h
/-- a number and its sign, one behind the other -/
theorem nmO_r {T : Nat → Int32} {b p lo hi sg v p2 : Nat} (h : nmO T b p lo hi sg = .inr (v, p2)) : (tnO T b p 0 lo hi).1 = v ∧ tsO T b (tnO T b p 0 lo hi).2.1 (tnO T b p 0 lo hi).2.2 sg = (p2, 0) ∧ lo ≤ v ∧ v ≤ hi ∧ p2 ≤ b := by
  unfold nmO at h
  split at h
  · rename_i h1
    split at h
    · rename_i h2
      split at h
      · rename_i h3
        cases h
        rw [tnO, if_pos rfl, if_pos h1, if_pos h2]
        exact ⟨rfl, by rw [tsO, if_pos rfl, if_pos h3], h2.1, h2.2, h3.1⟩
      · cases h
    · cases h
  · cases h
theorem nmO_l {T : Nat → Int32} {b p lo hi sg pl w : Nat} (h : nmO T b p lo hi sg = .inl (pl, w)) : tsO T b (tnO T b p 0 lo hi).2.1 (tnO T b p 0 lo hi).2.2 sg = (pl, w) ∧ w ≠ 0 ∧ w ≤ 3 := by
  unfold nmO at h
  split at h
  · rename_i h1
    split at h
    · rename_i h2
      split at h
      · cases h
      · rename_i h3
        cases h
        rw [tnO, if_pos rfl, if_pos h1, if_pos h2]
        exact ⟨by rw [tsO, if_pos rfl, if_neg h3], by omega, by omega⟩
    · rename_i h2
      cases h
      rw [tnO, if_pos rfl, if_pos h1, if_neg h2]
      exact ⟨if_neg (show ¬ (2 : Nat) = 0 by decide), by omega, by omega⟩
  · rename_i h1
    cases h
    rw [tnO, if_pos rfl, if_neg h1]
    exact ⟨if_neg (show ¬ (1 : Nat) = 0 by decide), by omega, by omega⟩
def lwO (T : Nat → Int32) (b : Nat) : (Nat × Nat) ⊕ ((Nat × Nat) × Nat) :=
  if isS T b 0 109 then (match nmO T b 1 0 5 44 with
    | .inl e => .inl e
    | .inr (w, p1) => match nmO T b p1 1 9 59 with
      | .inl e => .inl e
      | .inr (g, p2) => .inr ((w, g), p2)) else .inl (0, 1)
theorem i2c_n : ∀ c : Nat, c < 256 → ((nI c).toUInt32 % 65536).toInt32 = nI c := by decide +kernel
theorem idx_srt {T : Nat → Int32} {b p c : Nat} (hp : p < b) (h : T p = nI c) (hc : c < 256) : idxC c + nI 1 = nI (srt T b p) := by
  have e : ∀ j, j < 128 → (isS T b p j ↔ c = j) := fun j hj => ⟨fun z => (nI_eq (by omega) (by omega)).mp (h.symm.trans z.2), fun z => ⟨hp, by rw [h, z]⟩⟩
  unfold idxC srt
  by_cases h1 : c = 112
  · rw [if_pos h1, if_pos ((e 112 (by omega)).mpr h1)]; rfl
  rw [if_neg h1, if_neg (fun z => h1 ((e 112 (by omega)).mp z))]
  by_cases h2 : c = 114
  · rw [if_pos h2, if_pos ((e 114 (by omega)).mpr h2)]; rfl
  rw [if_neg h2, if_neg (fun z => h2 ((e 114 (by omega)).mp z))]
  by_cases h3 : c = 99
  · rw [if_pos h3, if_pos ((e 99 (by omega)).mpr h3)]; rfl
  rw [if_neg h3, if_neg (fun z => h3 ((e 99 (by omega)).mp z))]
  by_cases h4 : c = 111
  · rw [if_pos h4, if_pos ((e 111 (by omega)).mpr h4)]; rfl
  rw [if_neg h4, if_neg (fun z => h4 ((e 111 (by omega)).mp z))]
  by_cases h5 : c = 116
  · rw [if_pos h5, if_pos ((e 116 (by omega)).mpr h5)]; rfl
  rw [if_neg h5, if_neg (fun z => h5 ((e 116 (by omega)).mp z))]
  rfl
theorem srt_end {T : Nat → Int32} {b p : Nat} (h : ¬ p < b) : srt T b p = 0 := by
  unfold srt
  rw [if_neg (fun z => h z.1), if_neg (fun z => h z.1), if_neg (fun z => h z.1), if_neg (fun z => h z.1), if_neg (fun z => h z.1)]
def adM (M : Mem) (c : Nat) (s l w g : Int32) : Mem := mset (mset (mset (mset (mset (mset (mset M 29 c s) 30 c l) 31 c (nI 0)) 32 c w) 33 c g) 34 c (nI 0)) 28 0 (nI (c + 1))
/-- what the reading leaves at 0 -/
def zz (R : Nat → Int32) : Prop := R 3 = nI 0 ∧ R 4 = nI 0 ∧ ∀ c, c < 6 → R (29 + c) = nI 0 ∧ R (35 + c) = nI 0
theorem chR_zz {R : Nat → Int32} {c : Nat} (h : zz R) (hc : c < 6) (d : Nat × Nat × Nat × Nat) : zz (chR R c d) := by
  unfold chR
  refine ⟨?_, ?_, fun i hi => ⟨?_, ?_⟩⟩
  · rw [pk_un (by omega), pk_un (by omega), pk_un (by omega), pk_un (by omega), pk_un (by omega)]; exact h.1
  · rw [pk_un (by omega), pk_un (by omega), pk_un (by omega), pk_un (by omega), pk_un (by omega)]; exact h.2.1
  · rw [pk_un (by omega), pk_un (by omega), pk_un (by omega), pk_un (by omega), pk_un (by omega)]; exact (h.2.2 i hi).1
  · rw [pk_un (by omega), pk_un (by omega), pk_un (by omega), pk_un (by omega), pk_un (by omega)]; exact (h.2.2 i hi).2
theorem adM_ms {R : Nat → Int32} {M : Mem} {c : Nat} (h : ms 28 c R M) (hz : zz R) (hc : c < 6) (d : Nat × Nat × Nat × Nat) : ms 28 (c + 1) (chR R c d) (adM M c (nI d.1) (nI d.2.1) (nI d.2.2.1) (nI d.2.2.2)) := by
  obtain ⟨h0, h1, h2, h3, h4, h5⟩ := h
  have k0 : ∀ j, j = 0 ∨ j = 1 ∨ j = 3 ∨ j = 4 → chR R c d j = R j := fun j hj => by
    unfold chR
    rw [pk_un (by omega), pk_un (by omega), pk_un (by omega), pk_un (by omega), pk_un (by omega)]
  refine ⟨rfl, ?_, ?_, ?_, ?_, fun i hi => ?_⟩
  · rw [k0 0 (by omega)]; exact h1
  · rw [k0 1 (by omega)]; exact h2
  · rw [k0 3 (by omega)]; exact h3
  · rw [k0 4 (by omega)]; exact h4
  · show upd (M 29) c _ i = _ ∧ upd (M 30) c _ i = _ ∧ upd (M 31) c _ i = _ ∧ upd (M 32) c _ i = _ ∧ upd (M 33) c _ i = _ ∧ upd (M 34) c _ i = _
    have z := chR_zz hz hc d
    by_cases e : i = c
    · subst e
      rw [(z.2.2 i hc).1, (z.2.2 i hc).2, pk_us, pk_us, pk_us, pk_us, pk_us, pk_us]
      unfold chR
      refine ⟨?_, ?_, rfl, ?_, ?_, rfl⟩
      · rw [pk_un (by omega), pk_un (by omega), pk_un (by omega), pk_un (by omega), pk_us]
      · rw [pk_un (by omega), pk_un (by omega), pk_us]
      · rw [pk_un (by omega), pk_us]
      · rw [pk_us]
    · obtain ⟨a1, a2, a3, a4, a5, a6⟩ := h5 i (by omega)
      rw [pk_un e, pk_un e, pk_un e, pk_un e, pk_un e, pk_un e]
      unfold chR
      refine ⟨?_, ?_, ?_, ?_, ?_, ?_⟩
      · rw [pk_un (by omega), pk_un (by omega), pk_un (by omega), pk_un (by omega), pk_un (by omega)]; exact a1
      · rw [pk_un (by omega), pk_un (by omega), pk_un (by omega), pk_un (by omega), pk_un (by omega)]; exact a2
      · rw [pk_un (by omega), pk_un (by omega), pk_un (by omega), pk_un (by omega), pk_un (by omega)]; exact a3
      · rw [pk_un (by omega), pk_un (by omega), pk_un (by omega), pk_un (by omega), pk_un (by omega)]; exact a4
      · rw [pk_un (by omega), pk_un (by omega), pk_un (by omega), pk_un (by omega), pk_un (by omega)]; exact a5
      · rw [pk_un (by omega), pk_un (by omega), pk_un (by omega), pk_un (by omega), pk_un (by omega)]; exact a6
set_option maxHeartbeats 4000000 in
set_option maxRecDepth 100000 in
theorem c_X4_add (l : Launch) (G : Gx) (M : Mem) (v : Int32) (b : Nat) (hb : M 16 1 = nI b) (hb120 : b ≤ 120) : Con l G yX4_add cX4_add 2 (some .boolean) 0 0 [.ref (gA G 16), .int v] M (qI (bI (b < 120)) (fun N5 => (b = 120 ∧ N5 = M) ∨ (b < 120 ∧ N5 = mset (mset M 17 b v) 16 1 (nI (b + 1))))) := by
  refine Con.ofV [some (.ref (gA G 16)), some (.int v)] RX4 (by decide) rfl (Nat.le_of_ble_eq_true rfl) rfl ?_
  intro κ hl hG hk0 hn0
  subst hl hG
  have hcs : κ.k ≤ 0 ∧ κ.n ≤ 0 := ⟨Nat.le_of_eq hk0, Nat.le_of_eq hn0⟩
  refine r_aload_n (pc := 0) dX4_add_0 rfl ?_
  refine gf_X4_15 (pc := 1) dX4_add_1 rfl ?_
  refine r_is (nI b) (hb) ?_
  refine r_bipush (v := nI 120) (pc := 4) dX4_add_4 (by decide) ?_
  refine r_icmp_lt (tgt := 11) (pc := 6) dX4_add_6 (by decide) (fun h6 => ?_) (fun h6 => ?_)
  · have h6n : b < 120 := (nI_ltI (by omega) (by omega)).mp h6
    refine r_aload_n (pc := 11) dX4_add_11 rfl ?_
    refine gf_X4_9 (pc := 12) dX4_add_12 rfl ?_
    refine r_aload_n (pc := 15) dX4_add_15 rfl ?_
    refine gf_X4_15 (pc := 16) dX4_add_16 rfl ?_
    refine r_is (nI b) (hb) ?_
    refine r_iload_n (pc := 19) dX4_add_19 rfl ?_
    refine r_iast (pc := 20) dX4_add_20 rfl (show _ < 120 by omega) ?_
    refine r_aload_n (pc := 21) dX4_add_21 rfl ?_
    refine r_dup (pc := 22) dX4_add_22 rfl ?_
    refine gf_X4_15 (pc := 23) dX4_add_23 rfl ?_
    refine r_is (nI b) (hb) ?_
    refine r_iconst (v := nI 1) (pc := 26) dX4_add_26 (by decide) ?_
    first | with_reducible refine r_iaddN (pc := 27) dX4_add_27 ?_ | refine r_iadd (pc := 27) dX4_add_27 ?_
    refine pf_X4_15 (pc := 28) dX4_add_28 rfl ?_
    refine r_iconst (v := nI 1) (pc := 31) dX4_add_31 (by decide) ?_
    exact r_zret (pc := 32) dX4_add_32 rfl (by first | rfl | exact bI_narrow) ⟨by rw [bI_t h6n], Or.inr ⟨h6n, rfl⟩⟩
  · have h6n : b = 120 := Classical.byContradiction (fun z => h6 (nI_lt (by omega) (by omega)))
    refine r_iconst (v := nI 0) (pc := 9) dX4_add_9 (by decide) ?_
    exact r_zret (pc := 10) dX4_add_10 rfl (by first | rfl | exact bI_narrow) ⟨by rw [bI_f (by omega)], Or.inl ⟨h6n, rfl⟩⟩
set_option maxHeartbeats 4000000 in
set_option maxRecDepth 100000 in
theorem c_X5_feed (l : Launch) (G : Gx) (M : Mem) (x : Int32) (b : Nat) (hb : M 16 1 = nI b) (hb120 : b ≤ 120) : Con l G yX5_feed cX5_feed 2 (some .int) 1 22 [.ref (gA G 14), .int x] M (fun v M' => (¬ rgG 0 255 x ∧ rI cBad M v M') ∨ (∃ q, q ≤ 255 ∧ x = nI q ∧ ((b = 120 ∧ rI cFull M v M') ∨ (b < 120 ∧ rI (nI (b + 1)) (mset (mset M 17 b (nI q)) 16 1 (nI (b + 1))) v M')))) := by
  refine Con.ofV [some (.ref (gA G 14)), some (.int x)] RX5 (by decide) rfl (Nat.le_of_ble_eq_true rfl) rfl ?_
  intro κ hl hG hk0 hn0
  subst hl hG
  have hcs : κ.k ≤ 0 ∧ κ.n ≤ 0 := ⟨Nat.le_of_eq hk0, Nat.le_of_eq hn0⟩
  generalize hPP : (fun v M' => (¬ rgG 0 255 x ∧ rI cBad M v M') ∨ (∃ q, q ≤ 255 ∧ x = nI q ∧ ((b = 120 ∧ rI cFull M v M') ∨ (b < 120 ∧ rI (nI (b + 1)) (mset (mset M 17 b (nI q)) 16 1 (nI (b + 1))) v M')))) = PP
  refine r_iload_n (pc := 0) dX5_feed_0 rfl ?_
  refine r_iconst (v := nI 0) (pc := 1) dX5_feed_1 (by decide) ?_
  refine r_sipush (v := nI 255) (pc := 2) dX5_feed_2 (by decide) ?_
  refine iv_X5_63 (c_X5_within _ _ _ _ _ _) (pc := 5) dX5_feed_5 ⟨Nat.le_of_ble_eq_true rfl, Nat.le_of_ble_eq_true rfl⟩ (Nat.le_of_ble_eq_true rfl) hcs (kI ?_)
  refine r_ifne_b (tgt := 14) (pc := 8) dX5_feed_8 (by decide) (fun h8 => ?_) (fun h8 => ?_)
  · obtain ⟨q, hqa, hqb, rfl⟩ := rg_mp (a := 0) (b := 255) h8 (by omega) (by omega)
    refine r_aload_n (pc := 14) dX5_feed_14 rfl ?_
    refine gf_X5_18 (pc := 15) dX5_feed_15 rfl ?_
    refine r_iload_n (pc := 18) dX5_feed_18 rfl ?_
    refine iv_X5_112 (c_X4_add _ _ _ _ b hb hb120) (pc := 19) dX5_feed_19 rfl ⟨Nat.le_of_ble_eq_true rfl, Nat.le_of_ble_eq_true rfl⟩ (Nat.le_of_ble_eq_true rfl) hcs (kqI (fun N19 r19 => ?_))
    refine r_ifeq_b (tgt := 35) (pc := 22) dX5_feed_22 (by decide) (fun h22 => ?_) (fun h22 => ?_)
    · have h22n : b = 120 := by omega
      have e19 := (r19.resolve_right (fun z => h22 z.1)).2
      subst e19
      refine r_ldc (pc := 35) dX5_feed_35 lk_X5_118 ?_
      exact r_iret (pc := 37) dX5_feed_37 rfl (by subst hPP; exact (by first | exact Or.inr ⟨q, hqb, rfl, Or.inl ⟨h22n, rfl, rfl⟩⟩ | exact Or.inr ⟨q, hqb, rfl, Or.inr ⟨h22, rfl, rfl⟩⟩))
    · have e19 := (r19.resolve_left (fun z => by omega)).2
      subst e19
      refine r_aload_n (pc := 25) dX5_feed_25 rfl ?_
      refine gf_X5_18 (pc := 26) dX5_feed_26 rfl ?_
      refine gf_X5_115 (pc := 29) dX5_feed_29 rfl ?_
      refine r_goto (tgt := 37) (pc := 32) dX5_feed_32 (by decide) ?_
      exact r_iret (pc := 37) dX5_feed_37 rfl (by subst hPP; exact (by first | exact Or.inr ⟨q, hqb, rfl, Or.inl ⟨h22n, rfl, rfl⟩⟩ | exact Or.inr ⟨q, hqb, rfl, Or.inr ⟨h22, rfl, rfl⟩⟩))
  · have g8 : ¬ rgG 0 255 x := fun z => h8 (rg_mpr z (by omega))
    refine r_ldc (pc := 11) dX5_feed_11 lk_X5_67 ?_
    exact r_iret (pc := 13) dX5_feed_13 rfl (by subst hPP; exact (Or.inl ⟨g8, rfl, rfl⟩))
set_option maxHeartbeats 4000000 in
set_option maxRecDepth 100000 in
theorem c_X4_takeSign (l : Launch) (G : Gx) (M : Mem) (sg : Nat) (T : Nat → Int32) (hT : M 17 = T) (b p f : Nat) (hb : M 16 1 = nI b) (hp : M 16 2 = nI p) (hf : M 16 3 = nI f) (hpb : p ≤ b) (hb120 : b ≤ 120) (hf3 : f ≤ 3) : Con l G yX4_takeSign cX4_takeSign 2 none 0 0 [.ref (gA G 16), .int (nI sg)] M (rV (tpM M (tsO T b p f sg))) := by
  refine Con.ofV [some (.ref (gA G 16)), some (.int (nI sg))] RX4 (by decide) rfl (Nat.le_of_ble_eq_true rfl) rfl ?_
  intro κ hl hG hk0 hn0
  subst hl hG
  have hcs : κ.k ≤ 0 ∧ κ.n ≤ 0 := ⟨Nat.le_of_eq hk0, Nat.le_of_eq hn0⟩
  refine r_aload_n (pc := 0) dX4_takeSign_0 rfl ?_
  refine gf_X4_22 (pc := 1) dX4_takeSign_1 rfl ?_
  refine r_is (nI f) (hf) ?_
  refine r_if_eq (tgt := 8) (pc := 4) dX4_takeSign_4 (by decide) (fun h4 => ?_) (fun h4 => ?_)
  · have hf0 : f = 0 := (nI_eq (by omega) (by omega)).mp (h4.trans nI_0.symm)
    subst hf0
    refine r_aload_n (pc := 8) dX4_takeSign_8 rfl ?_
    refine gf_X4_19 (pc := 9) dX4_takeSign_9 rfl ?_
    refine r_is (nI p) (hp) ?_
    refine r_aload_n (pc := 12) dX4_takeSign_12 rfl ?_
    refine gf_X4_15 (pc := 13) dX4_takeSign_13 rfl ?_
    refine r_is (nI b) (hb) ?_
    refine r_icmp_ge (tgt := 45) (pc := 16) dX4_takeSign_16 (by decide) (fun h16 => ?_) (fun h16 => ?_)
    · have e9 : mset M 16 3 (nI 1) = tpM M (tsO T b p 0 sg) := by rw [tsO, if_pos rfl, if_neg (fun z => absurd ((nI_leI (by omega) (by omega)).mp h16) (by have := z.1; omega))]; exact tpM_3 hp
      refine r_aload_n (pc := 45) dX4_takeSign_45 rfl ?_
      refine r_iconst (v := nI 1) (pc := 46) dX4_takeSign_46 (by decide) ?_
      refine pf_X4_22 (pc := 47) dX4_takeSign_47 rfl ?_
      exact r_vret (pc := 50) dX4_takeSign_50 rfl ⟨rfl, e9⟩
    · have hpb2 : p < b := Nat.not_le.mp (fun z => h16 (nI_le z (by omega)))
      refine r_aload_n (pc := 19) dX4_takeSign_19 rfl ?_
      refine gf_X4_9 (pc := 20) dX4_takeSign_20 rfl ?_
      refine r_aload_n (pc := 23) dX4_takeSign_23 rfl ?_
      refine gf_X4_19 (pc := 24) dX4_takeSign_24 rfl ?_
      refine r_is (nI p) (hp) ?_
      refine r_iald (pc := 27) dX4_takeSign_27 rfl (show _ < 120 by omega) ?_
      refine r_is (T p) (by rw [hT]) ?_
      refine r_iload_n (pc := 28) dX4_takeSign_28 rfl ?_
      refine r_icmp_ne (tgt := 45) (pc := 29) dX4_takeSign_29 (by decide) (fun h29 => ?_) (fun h29 => ?_)
      · have e9 : mset M 16 3 (nI 1) = tpM M (tsO T b p 0 sg) := by rw [tsO, if_pos rfl, if_neg (fun z => h29 z.2)]; exact tpM_3 hp
        refine r_aload_n (pc := 45) dX4_takeSign_45 rfl ?_
        refine r_iconst (v := nI 1) (pc := 46) dX4_takeSign_46 (by decide) ?_
        refine pf_X4_22 (pc := 47) dX4_takeSign_47 rfl ?_
        exact r_vret (pc := 50) dX4_takeSign_50 rfl ⟨rfl, e9⟩
      · have e9 : mset M 16 2 (nI (p + 1)) = tpM M (tsO T b p 0 sg) := by rw [tsO, if_pos rfl, if_pos ⟨hpb2, h29⟩]; exact tpM_2 hf
        refine r_aload_n (pc := 32) dX4_takeSign_32 rfl ?_
        refine r_dup (pc := 33) dX4_takeSign_33 rfl ?_
        refine gf_X4_19 (pc := 34) dX4_takeSign_34 rfl ?_
        refine r_is (nI p) (hp) ?_
        refine r_iconst (v := nI 1) (pc := 37) dX4_takeSign_37 (by decide) ?_
        first | with_reducible refine r_iaddN (pc := 38) dX4_takeSign_38 ?_ | refine r_iadd (pc := 38) dX4_takeSign_38 ?_
        refine pf_X4_19 (pc := 39) dX4_takeSign_39 rfl ?_
        refine r_goto (tgt := 50) (pc := 42) dX4_takeSign_42 (by decide) ?_
        exact r_vret (pc := 50) dX4_takeSign_50 rfl ⟨rfl, e9⟩
  · have hf0 : f ≠ 0 := fun z => h4 (by rw [z]; rfl)
    have e9 : M = tpM M (tsO T b p f sg) := by rw [tsO_f hf0]; exact tpM_id hp hf
    exact r_vret (pc := 7) dX4_takeSign_7 rfl ⟨rfl, e9⟩
set_option maxHeartbeats 4000000 in
set_option maxRecDepth 100000 in
theorem c_X4_takeNumber (l : Launch) (G : Gx) (M : Mem) (lo hi : Nat) (hlo : lo < 100) (hhi : hi < 100) (T : Nat → Int32) (hT : M 17 = T) (b p f : Nat) (hb : M 16 1 = nI b) (hp : M 16 2 = nI p) (hf : M 16 3 = nI f) (hpb : p ≤ b) (hb120 : b ≤ 120) (hf3 : f ≤ 3) : Con l G yX4_takeNumber cX4_takeNumber 6 (some .int) 1 22 [.ref (gA G 16), .int (nI lo), .int (nI hi)] M (rI (nI (tnO T b p f lo hi).1) (tpM M (tnO T b p f lo hi).2)) := by
  refine Con.ofV [some (.ref (gA G 16)), some (.int (nI lo)), some (.int (nI hi)), none, none, none] RX4 (by decide) rfl (Nat.le_of_ble_eq_true rfl) rfl ?_
  intro κ hl hG hk0 hn0
  subst hl hG
  have hcs : κ.k ≤ 0 ∧ κ.n ≤ 0 := ⟨Nat.le_of_eq hk0, Nat.le_of_eq hn0⟩
  refine r_aload_n (pc := 0) dX4_takeNumber_0 rfl ?_
  refine gf_X4_22 (pc := 1) dX4_takeNumber_1 rfl ?_
  refine r_is (nI f) (hf) ?_
  refine r_if_eq (tgt := 9) (pc := 4) dX4_takeNumber_4 (by decide) (fun h4 => ?_) (fun h4 => ?_)
  · have hf0 : f = 0 := (nI_eq (by omega) (by omega)).mp (h4.trans nI_0.symm)
    refine r_iconst (v := nI 0) (pc := 9) dX4_takeNumber_9 (by decide) ?_
    refine r_st_n [_, _, _, _, _, _] (pc := 10) dX4_takeNumber_10 (by decide) rfl rfl ?_
    refine r_aload_n (pc := 11) dX4_takeNumber_11 rfl ?_
    refine gf_X4_19 (pc := 12) dX4_takeNumber_12 rfl ?_
    refine r_is (nI p) (hp) ?_
    refine r_st [_, _, _, _, _, _] (pc := 15) dX4_takeNumber_15 (by decide) rfl rfl ?_
    refine V.bk (loopV (fun (σ : Nat) => V κ cX4_takeNumber RX4 6 (some .int) (rmx 1 22) (QM κ (rI (nI (tnO T b p f lo hi).1) (tpM M (tnO T b p f lo hi).2))) M 17 [some (.ref (gA κ.G 16)), some (.int (nI lo)), some (.int (nI hi)), some (.int (cvF T p σ)), some (.int (nI (p + σ))), none] []) (fun (σ : Nat) => p + σ ≤ b ∧ σ ≤ 3 ∧ ∀ i, i < σ → isDg T (p + i) = true) (fun (σ : Nat) => 3 - σ) ?_ 0 ⟨hpb, by omega, fun i h => absurd h (Nat.not_lt_zero i)⟩) rfl (by (repeat (first | exact wk_0 | refine wk_n ?_ | refine wk_s rfl ?_)); done)
    rintro j ⟨hj, hj3, hi9⟩ ih
    show V κ cX4_takeNumber RX4 6 (some .int) (rmx 1 22) (QM κ (rI (nI (tnO T b p f lo hi).1) (tpM M (tnO T b p f lo hi).2))) M 17 [some (.ref (gA κ.G 16)), some (.int (nI lo)), some (.int (nI hi)), some (.int (cvF T p j)), some (.int (nI (p + j))), none] []
    refine r_iload (pc := 17) dX4_takeNumber_17 rfl ?_
    refine r_aload_n (pc := 19) dX4_takeNumber_19 rfl ?_
    refine gf_X4_15 (pc := 20) dX4_takeNumber_20 rfl ?_
    refine r_is (nI b) (hb) ?_
    refine r_icmp_ge (tgt := 76) (pc := 23) dX4_takeNumber_23 (by decide) (fun h23 => ?_) (fun h23 => ?_)
    · have hx := dg_e hi9 hj hj3 (Or.inl (by have := (nI_leI (by omega) (by omega)).mp h23; omega))
      refine r_iload (pc := 76) dX4_takeNumber_76 rfl ?_
      refine r_aload_n (pc := 78) dX4_takeNumber_78 rfl ?_
      refine gf_X4_19 (pc := 79) dX4_takeNumber_79 rfl ?_
      refine r_is (nI p) (hp) ?_
      first | (with_reducible refine r_isubN (pc := 82) dX4_takeNumber_82 ?hle ?_; case hle => omega) | refine r_isub (pc := 82) dX4_takeNumber_82 ?_
      refine r_is (nI j) (by rw [Nat.add_sub_cancel_left]) ?_
      refine r_st [_, _, _, _, _, _] (pc := 83) dX4_takeNumber_83 (by decide) rfl rfl ?_
      refine r_iload (pc := 85) dX4_takeNumber_85 rfl ?_
      refine r_iconst (v := nI 1) (pc := 87) dX4_takeNumber_87 (by decide) ?_
      refine r_icmp_lt (tgt := 97) (pc := 88) dX4_takeNumber_88 (by decide) (fun h88 => ?_) (fun h88 => ?_)
      · have hn : ¬ (1 ≤ dgL T b p ∧ dgL T b p ≤ 2) := by have := (nI_ltI (by omega) (by omega)).mp h88; omega
        refine r_aload_n (pc := 97) dX4_takeNumber_97 rfl ?_
        refine r_iconst (v := nI 1) (pc := 98) dX4_takeNumber_98 (by decide) ?_
        refine pf_X4_22 (pc := 99) dX4_takeNumber_99 rfl ?_
        refine r_iconst (v := nI 0) (pc := 102) dX4_takeNumber_102 (by decide) ?_
        exact r_iret (pc := 103) dX4_takeNumber_103 rfl ⟨by rw [tnO, if_pos hf0, if_neg hn], by rw [tnO, if_pos hf0, if_neg hn]; exact tpM_3 hp⟩
      · have h88n : 1 ≤ j := Nat.not_lt.mp (fun z => h88 (nI_lt z (by omega)))
        refine r_iload (pc := 91) dX4_takeNumber_91 rfl ?_
        refine r_iconst (v := nI 2) (pc := 93) dX4_takeNumber_93 (by decide) ?_
        refine r_icmp_le (tgt := 104) (pc := 94) dX4_takeNumber_94 (by decide) (fun h94 => ?_) (fun h94 => ?_)
        · have h94n : j ≤ 2 := (nI_leI (by omega) (by omega)).mp h94
          obtain ⟨hv1, hv2⟩ := cvF_v hi9 h88n h94n
          have hjd : j = dgL T b p := by omega
          have hn : 1 ≤ dgL T b p ∧ dgL T b p ≤ 2 := by omega
          refine r_iload_n (pc := 104) dX4_takeNumber_104 rfl ?_
          refine r_is (nI (vlN T p j)) hv1 ?_
          refine r_iload_n (pc := 105) dX4_takeNumber_105 rfl ?_
          refine r_iload_n (pc := 106) dX4_takeNumber_106 rfl ?_
          refine iv_X4_64 (c_X5_within _ _ _ _ _ _) (pc := 107) dX4_takeNumber_107 ⟨Nat.le_of_ble_eq_true rfl, Nat.le_of_ble_eq_true rfl⟩ (Nat.le_of_ble_eq_true rfl) hcs (kI ?_)
          refine r_ifne_b (tgt := 120) (pc := 110) dX4_takeNumber_110 (by decide) (fun h110 => ?_) (fun h110 => ?_)
          · have hr : nI lo ≤ nI (vlN T p j) ∧ nI (vlN T p j) ≤ nI hi := h110
            have hr1 := (nI_leI (by omega) (by omega)).mp hr.1
            have hr2 := (nI_leI (by omega) (by omega)).mp hr.2
            refine r_aload_n (pc := 120) dX4_takeNumber_120 rfl ?_
            refine r_iload (pc := 121) dX4_takeNumber_121 rfl ?_
            refine pf_X4_19 (pc := 123) dX4_takeNumber_123 rfl ?_
            refine r_iload_n (pc := 126) dX4_takeNumber_126 rfl ?_
            refine r_is (nI (vlN T p j)) hv1 ?_
            exact r_iret (pc := 127) dX4_takeNumber_127 rfl ⟨by rw [tnO, if_pos hf0, if_pos hn, ← hjd, if_pos ⟨hr1, hr2⟩], by rw [tnO, if_pos hf0, if_pos hn, ← hjd, if_pos ⟨hr1, hr2⟩]; exact tpM_2 (f := 0) (by rw [hf, hf0])⟩
          · have hr : ¬ (lo ≤ vlN T p j ∧ vlN T p j ≤ hi) := fun z => h110 ⟨nI_le z.1 (by omega), nI_le z.2 (by omega)⟩
            refine r_aload_n (pc := 113) dX4_takeNumber_113 rfl ?_
            refine r_iconst (v := nI 2) (pc := 114) dX4_takeNumber_114 (by decide) ?_
            refine pf_X4_22 (pc := 115) dX4_takeNumber_115 rfl ?_
            refine r_iconst (v := nI 0) (pc := 118) dX4_takeNumber_118 (by decide) ?_
            exact r_iret (pc := 119) dX4_takeNumber_119 rfl ⟨by rw [tnO, if_pos hf0, if_pos hn, ← hjd, if_neg hr], by rw [tnO, if_pos hf0, if_pos hn, ← hjd, if_neg hr]; exact tpM_3 hp⟩
        · have h94m : ¬ j ≤ 2 := fun z => h94 (nI_le z (by omega))
          have hn : ¬ (1 ≤ dgL T b p ∧ dgL T b p ≤ 2) := by omega
          refine r_aload_n (pc := 97) dX4_takeNumber_97 rfl ?_
          refine r_iconst (v := nI 1) (pc := 98) dX4_takeNumber_98 (by decide) ?_
          refine pf_X4_22 (pc := 99) dX4_takeNumber_99 rfl ?_
          refine r_iconst (v := nI 0) (pc := 102) dX4_takeNumber_102 (by decide) ?_
          exact r_iret (pc := 103) dX4_takeNumber_103 rfl ⟨by rw [tnO, if_pos hf0, if_neg hn], by rw [tnO, if_pos hf0, if_neg hn]; exact tpM_3 hp⟩
    · have h23n : p + j < b := Nat.not_le.mp (fun z => h23 (nI_le z (by omega)))
      refine r_iload (pc := 26) dX4_takeNumber_26 rfl ?_
      refine r_aload_n (pc := 28) dX4_takeNumber_28 rfl ?_
      refine gf_X4_19 (pc := 29) dX4_takeNumber_29 rfl ?_
      refine r_is (nI p) (hp) ?_
      first | (with_reducible refine r_isubN (pc := 32) dX4_takeNumber_32 ?hle ?_; case hle => omega) | refine r_isub (pc := 32) dX4_takeNumber_32 ?_
      refine r_is (nI j) (by rw [Nat.add_sub_cancel_left]) ?_
      refine r_iconst (v := nI 3) (pc := 33) dX4_takeNumber_33 (by decide) ?_
      refine r_icmp_ge (tgt := 76) (pc := 34) dX4_takeNumber_34 (by decide) (fun h34 => ?_) (fun h34 => ?_)
      · have hx := dg_e hi9 hj hj3 (Or.inr (Or.inl (by have := (nI_leI (by omega) (by omega)).mp h34; omega)))
        refine r_iload (pc := 76) dX4_takeNumber_76 rfl ?_
        refine r_aload_n (pc := 78) dX4_takeNumber_78 rfl ?_
        refine gf_X4_19 (pc := 79) dX4_takeNumber_79 rfl ?_
        refine r_is (nI p) (hp) ?_
        first | (with_reducible refine r_isubN (pc := 82) dX4_takeNumber_82 ?hle ?_; case hle => omega) | refine r_isub (pc := 82) dX4_takeNumber_82 ?_
        refine r_is (nI j) (by rw [Nat.add_sub_cancel_left]) ?_
        refine r_st [_, _, _, _, _, _] (pc := 83) dX4_takeNumber_83 (by decide) rfl rfl ?_
        refine r_iload (pc := 85) dX4_takeNumber_85 rfl ?_
        refine r_iconst (v := nI 1) (pc := 87) dX4_takeNumber_87 (by decide) ?_
        refine r_icmp_lt (tgt := 97) (pc := 88) dX4_takeNumber_88 (by decide) (fun h88 => ?_) (fun h88 => ?_)
        · have hn : ¬ (1 ≤ dgL T b p ∧ dgL T b p ≤ 2) := by have := (nI_ltI (by omega) (by omega)).mp h88; omega
          refine r_aload_n (pc := 97) dX4_takeNumber_97 rfl ?_
          refine r_iconst (v := nI 1) (pc := 98) dX4_takeNumber_98 (by decide) ?_
          refine pf_X4_22 (pc := 99) dX4_takeNumber_99 rfl ?_
          refine r_iconst (v := nI 0) (pc := 102) dX4_takeNumber_102 (by decide) ?_
          exact r_iret (pc := 103) dX4_takeNumber_103 rfl ⟨by rw [tnO, if_pos hf0, if_neg hn], by rw [tnO, if_pos hf0, if_neg hn]; exact tpM_3 hp⟩
        · have h88n : 1 ≤ j := Nat.not_lt.mp (fun z => h88 (nI_lt z (by omega)))
          refine r_iload (pc := 91) dX4_takeNumber_91 rfl ?_
          refine r_iconst (v := nI 2) (pc := 93) dX4_takeNumber_93 (by decide) ?_
          refine r_icmp_le (tgt := 104) (pc := 94) dX4_takeNumber_94 (by decide) (fun h94 => ?_) (fun h94 => ?_)
          · have h94n : j ≤ 2 := (nI_leI (by omega) (by omega)).mp h94
            obtain ⟨hv1, hv2⟩ := cvF_v hi9 h88n h94n
            have hjd : j = dgL T b p := by omega
            have hn : 1 ≤ dgL T b p ∧ dgL T b p ≤ 2 := by omega
            refine r_iload_n (pc := 104) dX4_takeNumber_104 rfl ?_
            refine r_is (nI (vlN T p j)) hv1 ?_
            refine r_iload_n (pc := 105) dX4_takeNumber_105 rfl ?_
            refine r_iload_n (pc := 106) dX4_takeNumber_106 rfl ?_
            refine iv_X4_64 (c_X5_within _ _ _ _ _ _) (pc := 107) dX4_takeNumber_107 ⟨Nat.le_of_ble_eq_true rfl, Nat.le_of_ble_eq_true rfl⟩ (Nat.le_of_ble_eq_true rfl) hcs (kI ?_)
            refine r_ifne_b (tgt := 120) (pc := 110) dX4_takeNumber_110 (by decide) (fun h110 => ?_) (fun h110 => ?_)
            · have hr : nI lo ≤ nI (vlN T p j) ∧ nI (vlN T p j) ≤ nI hi := h110
              have hr1 := (nI_leI (by omega) (by omega)).mp hr.1
              have hr2 := (nI_leI (by omega) (by omega)).mp hr.2
              refine r_aload_n (pc := 120) dX4_takeNumber_120 rfl ?_
              refine r_iload (pc := 121) dX4_takeNumber_121 rfl ?_
              refine pf_X4_19 (pc := 123) dX4_takeNumber_123 rfl ?_
              refine r_iload_n (pc := 126) dX4_takeNumber_126 rfl ?_
              refine r_is (nI (vlN T p j)) hv1 ?_
              exact r_iret (pc := 127) dX4_takeNumber_127 rfl ⟨by rw [tnO, if_pos hf0, if_pos hn, ← hjd, if_pos ⟨hr1, hr2⟩], by rw [tnO, if_pos hf0, if_pos hn, ← hjd, if_pos ⟨hr1, hr2⟩]; exact tpM_2 (f := 0) (by rw [hf, hf0])⟩
            · have hr : ¬ (lo ≤ vlN T p j ∧ vlN T p j ≤ hi) := fun z => h110 ⟨nI_le z.1 (by omega), nI_le z.2 (by omega)⟩
              refine r_aload_n (pc := 113) dX4_takeNumber_113 rfl ?_
              refine r_iconst (v := nI 2) (pc := 114) dX4_takeNumber_114 (by decide) ?_
              refine pf_X4_22 (pc := 115) dX4_takeNumber_115 rfl ?_
              refine r_iconst (v := nI 0) (pc := 118) dX4_takeNumber_118 (by decide) ?_
              exact r_iret (pc := 119) dX4_takeNumber_119 rfl ⟨by rw [tnO, if_pos hf0, if_pos hn, ← hjd, if_neg hr], by rw [tnO, if_pos hf0, if_pos hn, ← hjd, if_neg hr]; exact tpM_3 hp⟩
          · have h94m : ¬ j ≤ 2 := fun z => h94 (nI_le z (by omega))
            have hn : ¬ (1 ≤ dgL T b p ∧ dgL T b p ≤ 2) := by omega
            refine r_aload_n (pc := 97) dX4_takeNumber_97 rfl ?_
            refine r_iconst (v := nI 1) (pc := 98) dX4_takeNumber_98 (by decide) ?_
            refine pf_X4_22 (pc := 99) dX4_takeNumber_99 rfl ?_
            refine r_iconst (v := nI 0) (pc := 102) dX4_takeNumber_102 (by decide) ?_
            exact r_iret (pc := 103) dX4_takeNumber_103 rfl ⟨by rw [tnO, if_pos hf0, if_neg hn], by rw [tnO, if_pos hf0, if_neg hn]; exact tpM_3 hp⟩
      · have h34n : j < 3 := Nat.not_le.mp (fun z => h34 (nI_le z (by omega)))
        refine r_aload_n (pc := 37) dX4_takeNumber_37 rfl ?_
        refine gf_X4_9 (pc := 38) dX4_takeNumber_38 rfl ?_
        refine r_iload (pc := 41) dX4_takeNumber_41 rfl ?_
        refine r_iald (pc := 43) dX4_takeNumber_43 rfl (show _ < 120 by omega) ?_
        refine r_is (T (p + j)) (by rw [hT]) ?_
        refine r_bipush (v := nI 48) (pc := 44) dX4_takeNumber_44 (by decide) ?_
        refine r_bipush (v := nI 57) (pc := 46) dX4_takeNumber_46 (by decide) ?_
        refine iv_X4_64 (c_X5_within _ _ _ _ _ _) (pc := 48) dX4_takeNumber_48 ⟨Nat.le_of_ble_eq_true rfl, Nat.le_of_ble_eq_true rfl⟩ (Nat.le_of_ble_eq_true rfl) hcs (kI ?_)
        refine r_ifeq_b (tgt := 76) (pc := 51) dX4_takeNumber_51 (by decide) (fun h51 => ?_) (fun h51 => ?_)
        · have hx := dg_e hi9 hj hj3 (Or.inr (Or.inr (fun z => h51 (of_decide_eq_true z))))
          refine r_iload (pc := 76) dX4_takeNumber_76 rfl ?_
          refine r_aload_n (pc := 78) dX4_takeNumber_78 rfl ?_
          refine gf_X4_19 (pc := 79) dX4_takeNumber_79 rfl ?_
          refine r_is (nI p) (hp) ?_
          first | (with_reducible refine r_isubN (pc := 82) dX4_takeNumber_82 ?hle ?_; case hle => omega) | refine r_isub (pc := 82) dX4_takeNumber_82 ?_
          refine r_is (nI j) (by rw [Nat.add_sub_cancel_left]) ?_
          refine r_st [_, _, _, _, _, _] (pc := 83) dX4_takeNumber_83 (by decide) rfl rfl ?_
          refine r_iload (pc := 85) dX4_takeNumber_85 rfl ?_
          refine r_iconst (v := nI 1) (pc := 87) dX4_takeNumber_87 (by decide) ?_
          refine r_icmp_lt (tgt := 97) (pc := 88) dX4_takeNumber_88 (by decide) (fun h88 => ?_) (fun h88 => ?_)
          · have hn : ¬ (1 ≤ dgL T b p ∧ dgL T b p ≤ 2) := by have := (nI_ltI (by omega) (by omega)).mp h88; omega
            refine r_aload_n (pc := 97) dX4_takeNumber_97 rfl ?_
            refine r_iconst (v := nI 1) (pc := 98) dX4_takeNumber_98 (by decide) ?_
            refine pf_X4_22 (pc := 99) dX4_takeNumber_99 rfl ?_
            refine r_iconst (v := nI 0) (pc := 102) dX4_takeNumber_102 (by decide) ?_
            exact r_iret (pc := 103) dX4_takeNumber_103 rfl ⟨by rw [tnO, if_pos hf0, if_neg hn], by rw [tnO, if_pos hf0, if_neg hn]; exact tpM_3 hp⟩
          · have h88n : 1 ≤ j := Nat.not_lt.mp (fun z => h88 (nI_lt z (by omega)))
            refine r_iload (pc := 91) dX4_takeNumber_91 rfl ?_
            refine r_iconst (v := nI 2) (pc := 93) dX4_takeNumber_93 (by decide) ?_
            refine r_icmp_le (tgt := 104) (pc := 94) dX4_takeNumber_94 (by decide) (fun h94 => ?_) (fun h94 => ?_)
            · have h94n : j ≤ 2 := (nI_leI (by omega) (by omega)).mp h94
              obtain ⟨hv1, hv2⟩ := cvF_v hi9 h88n h94n
              have hjd : j = dgL T b p := by omega
              have hn : 1 ≤ dgL T b p ∧ dgL T b p ≤ 2 := by omega
              refine r_iload_n (pc := 104) dX4_takeNumber_104 rfl ?_
              refine r_is (nI (vlN T p j)) hv1 ?_
              refine r_iload_n (pc := 105) dX4_takeNumber_105 rfl ?_
              refine r_iload_n (pc := 106) dX4_takeNumber_106 rfl ?_
              refine iv_X4_64 (c_X5_within _ _ _ _ _ _) (pc := 107) dX4_takeNumber_107 ⟨Nat.le_of_ble_eq_true rfl, Nat.le_of_ble_eq_true rfl⟩ (Nat.le_of_ble_eq_true rfl) hcs (kI ?_)
              refine r_ifne_b (tgt := 120) (pc := 110) dX4_takeNumber_110 (by decide) (fun h110 => ?_) (fun h110 => ?_)
              · have hr : nI lo ≤ nI (vlN T p j) ∧ nI (vlN T p j) ≤ nI hi := h110
                have hr1 := (nI_leI (by omega) (by omega)).mp hr.1
                have hr2 := (nI_leI (by omega) (by omega)).mp hr.2
                refine r_aload_n (pc := 120) dX4_takeNumber_120 rfl ?_
                refine r_iload (pc := 121) dX4_takeNumber_121 rfl ?_
                refine pf_X4_19 (pc := 123) dX4_takeNumber_123 rfl ?_
                refine r_iload_n (pc := 126) dX4_takeNumber_126 rfl ?_
                refine r_is (nI (vlN T p j)) hv1 ?_
                exact r_iret (pc := 127) dX4_takeNumber_127 rfl ⟨by rw [tnO, if_pos hf0, if_pos hn, ← hjd, if_pos ⟨hr1, hr2⟩], by rw [tnO, if_pos hf0, if_pos hn, ← hjd, if_pos ⟨hr1, hr2⟩]; exact tpM_2 (f := 0) (by rw [hf, hf0])⟩
              · have hr : ¬ (lo ≤ vlN T p j ∧ vlN T p j ≤ hi) := fun z => h110 ⟨nI_le z.1 (by omega), nI_le z.2 (by omega)⟩
                refine r_aload_n (pc := 113) dX4_takeNumber_113 rfl ?_
                refine r_iconst (v := nI 2) (pc := 114) dX4_takeNumber_114 (by decide) ?_
                refine pf_X4_22 (pc := 115) dX4_takeNumber_115 rfl ?_
                refine r_iconst (v := nI 0) (pc := 118) dX4_takeNumber_118 (by decide) ?_
                exact r_iret (pc := 119) dX4_takeNumber_119 rfl ⟨by rw [tnO, if_pos hf0, if_pos hn, ← hjd, if_neg hr], by rw [tnO, if_pos hf0, if_pos hn, ← hjd, if_neg hr]; exact tpM_3 hp⟩
            · have h94m : ¬ j ≤ 2 := fun z => h94 (nI_le z (by omega))
              have hn : ¬ (1 ≤ dgL T b p ∧ dgL T b p ≤ 2) := by omega
              refine r_aload_n (pc := 97) dX4_takeNumber_97 rfl ?_
              refine r_iconst (v := nI 1) (pc := 98) dX4_takeNumber_98 (by decide) ?_
              refine pf_X4_22 (pc := 99) dX4_takeNumber_99 rfl ?_
              refine r_iconst (v := nI 0) (pc := 102) dX4_takeNumber_102 (by decide) ?_
              exact r_iret (pc := 103) dX4_takeNumber_103 rfl ⟨by rw [tnO, if_pos hf0, if_neg hn], by rw [tnO, if_pos hf0, if_neg hn]; exact tpM_3 hp⟩
        · refine r_iload_n (pc := 54) dX4_takeNumber_54 rfl ?_
          refine r_bipush (v := nI 10) (pc := 55) dX4_takeNumber_55 (by decide) ?_
          refine r_imul (pc := 57) dX4_takeNumber_57 ?_
          refine r_aload_n (pc := 58) dX4_takeNumber_58 rfl ?_
          refine gf_X4_9 (pc := 59) dX4_takeNumber_59 rfl ?_
          refine r_iload (pc := 62) dX4_takeNumber_62 rfl ?_
          refine r_iald (pc := 64) dX4_takeNumber_64 rfl (show _ < 120 by omega) ?_
          refine r_is (T (p + j)) (by rw [hT]) ?_
          refine r_iadd (pc := 65) dX4_takeNumber_65 ?_
          refine r_bipush (v := nI 48) (pc := 66) dX4_takeNumber_66 (by decide) ?_
          refine r_isub (pc := 68) dX4_takeNumber_68 ?_
          refine r_st_n [_, _, _, _, _, _] (pc := 69) dX4_takeNumber_69 (by decide) rfl rfl ?_
          first | refine r_inc [_, _, _, _, _, _] (pc := 70) dX4_takeNumber_70 rfl (nI_inc _) (by decide) rfl rfl ?_ | refine r_inc [_, _, _, _, _, _] (pc := 70) dX4_takeNumber_70 rfl rfl (by decide) rfl rfl ?_
          refine r_goto (tgt := 17) (pc := 73) dX4_takeNumber_73 (by decide) ?_
          exact V.bk (ih (j + 1) ⟨by omega, by omega, lt_s hi9 (decide_eq_true h51)⟩ (by omega)) rfl (by (repeat (first | exact wk_0 | refine wk_n ?_ | refine wk_s rfl ?_)); done)
  · have hf0 : f ≠ 0 := fun z => h4 (by rw [z]; rfl)
    refine r_iconst (v := nI 0) (pc := 7) dX4_takeNumber_7 (by decide) ?_
    exact r_iret (pc := 8) dX4_takeNumber_8 rfl ⟨by rw [tnO_f hf0], by rw [tnO_f hf0]; exact tpM_id hp hf⟩
