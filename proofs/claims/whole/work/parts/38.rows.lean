theorem lane_b (x : Int32) : x.toInt8.toInt32 = x <<< (nI 24 &&& 31) >>> (nI 24 &&& 31) := by
  have e : (nI 24 &&& 31 : Int32) = 24 := by decide
  rw [e]
  apply Int32.toBitVec_inj.mp
  rw [Int8.toBitVec_toInt32, Int32.toBitVec_toInt8, Int32.toBitVec_shiftRight, Int32.toBitVec_shiftLeft]
  have e2 : ((24 : Int32).toBitVec.smod 32) = 24#32 := by decide
  rw [e2]
  show _ = BitVec.sshiftRight (x.toBitVec <<< 24#32) 24
  generalize x.toBitVec = y
  rw [BitVec.signExtend_eq_setWidth_of_le y (by decide)]
  apply BitVec.eq_of_getLsbD_eq
  intro i hi
  rw [BitVec.getLsbD_signExtend, BitVec.getLsbD_sshiftRight]
  simp only [BitVec.msb_setWidth, BitVec.getLsbD_setWidth, BitVec.shiftLeft_eq', BitVec.getLsbD_shiftLeft, BitVec.msb_shiftLeft]
  have h2 : ¬ 32 ≤ i := by omega
  have h3 : ¬ 24 + i < 24 := by omega
  by_cases h : i < 8
  · have h1 : 24 + i < 32 := by omega
    simp [h, h1, h2, h3]
    intro _; exact hi
  · have h1 : ¬ 24 + i < 32 := by omega
    simp [h, h1, h2, BitVec.getMsbD]
    intro _; exact hi
theorem lane_s (x : Int32) : x.toInt16.toInt32 = x <<< (nI 16 &&& 31) >>> (nI 16 &&& 31) := by
  have e : (nI 16 &&& 31 : Int32) = 16 := by decide
  rw [e]
  apply Int32.toBitVec_inj.mp
  rw [Int16.toBitVec_toInt32, Int32.toBitVec_toInt16, Int32.toBitVec_shiftRight, Int32.toBitVec_shiftLeft]
  have e2 : ((16 : Int32).toBitVec.smod 32) = 16#32 := by decide
  rw [e2]
  show _ = BitVec.sshiftRight (x.toBitVec <<< 16#32) 16
  generalize x.toBitVec = y
  rw [BitVec.signExtend_eq_setWidth_of_le y (by decide)]
  apply BitVec.eq_of_getLsbD_eq
  intro i hi
  rw [BitVec.getLsbD_signExtend, BitVec.getLsbD_sshiftRight]
  simp only [BitVec.msb_setWidth, BitVec.getLsbD_setWidth, BitVec.shiftLeft_eq', BitVec.getLsbD_shiftLeft, BitVec.msb_shiftLeft]
  have h2 : ¬ 32 ≤ i := by omega
  have h3 : ¬ 16 + i < 16 := by omega
  by_cases h : i < 16
  · have h1 : 16 + i < 32 := by omega
    simp [h, h1, h2, h3]
    intro _; exact hi
  · have h1 : ¬ 16 + i < 32 := by omega
    simp [h, h1, h2, BitVec.getMsbD]
    intro _; exact hi
/-- the rows of class and reference -/
def rwR (M : Mem) : Prop := ∀ r, r ≤ 7 → (M 2 r < 0 ∧ M (45 + r) 1 = -1) ∨ (∃ s l, s ≤ 40 ∧ l ≤ 2 ∧ M 2 r = nI s ∧ M (45 + r) 2 = nI s ∧ M 1 r = nI l ∧ M (45 + r) 1 = nI l ∧ ∀ i, i < 40 → M (53 + r) i = M 3 (40 * r + i))
theorem LC_u {z i : Int32} {m c c2 : Nat} (h : LC z i m c) (g : LC z i m c2) : c = c2 := by
  rcases h with ⟨h1, h2⟩ | ⟨s, hs, h3, h4⟩ <;> rcases g with ⟨g1, g2⟩ | ⟨t, ht, g3, g4⟩
  · omega
  · rw [ht] at h2; exact absurd h2 (nI_pos (by omega))
  · rw [hs] at g2; exact absurd g2 (nI_pos (by omega))
  · have e : s = t := (nI_eq (by omega) (by omega)).mp (hs.symm.trans ht)
    subst e
    rcases h4 with ⟨a, b⟩ | ⟨a, b⟩ <;> rcases g4 with ⟨a2, b2⟩ | ⟨a2, b2⟩
    · omega
    · exact absurd b b2
    · exact absurd b2 b
    · omega
theorem hold_iff {s : Nat} {i w : Int32} (hs : s ≤ 40) : (0 ≤ i ∧ 0 ≤ w ∧ i ≤ nI s - w) ↔ ∃ p m, i = nI p ∧ w = nI m ∧ p + m ≤ s := by
  have ri := fb_rng i
  have rw' := fb_rng w
  have z0 : (0 : Int32).toInt = 0 := rfl
  constructor
  · rintro ⟨h1, h2, h3⟩
    rw [fa_le] at h1 h2 h3
    rw [fb_subI (by rw [nI_toInt (by omega)]; omega) (by rw [nI_toInt (by omega)]; omega), nI_toInt (by omega)] at h3
    refine ⟨i.toInt.toNat, w.toInt.toNat, ?_, ?_, by omega⟩
    · rw [fa_eq, nI_toInt (by omega)]; omega
    · rw [fa_eq, nI_toInt (by omega)]; omega
  · rintro ⟨p, m, rfl, rfl, h⟩
    refine ⟨nI_pos' (by omega), nI_pos' (by omega), ?_⟩
    rw [pk_sub (by omega)]
    exact nI_le (by omega) (by omega)
theorem hold_it {s m : Nat} {i : Int32} (hs : s ≤ 40) (hm : m ≤ 40) : (0 ≤ i ∧ 0 ≤ nI m ∧ i ≤ nI s - nI m) ↔ itG s m i := by
  rw [hold_iff hs]
  constructor
  · rintro ⟨p, k, h1, h2, h3⟩
    have := (nI_eq (by omega) (by omega)).mp h2
    subst this
    exact ⟨p, h1, h3⟩
  · rintro ⟨p, h1, h2⟩
    exact ⟨p, m, h1, rfl, h2⟩
def qE (F : Nat → Mem → Prop) : Option Value → Mem → Prop := fun v M' => ∃ c, v = some (.int (nI c)) ∧ F c M'
theorem kqE {κ : Kx} {cc : ByteArray} {own : String} {nL : Nat} {ret : Option FieldType} {R : Room} {Q : State → Prop} {pc : Nat} {f : List (Option Value)} {st : List Value} {F : Nat → Mem → Prop} (k : ∀ c N, F c N → V κ cc own nL ret R Q N pc f (.int (nI c) :: st)) : ∀ v M', qE F v M' → V κ cc own nL ret R Q M' pc f (v.toList ++ st) := by
  rintro _ _ ⟨c, rfl, h⟩
  exact k c _ h
theorem neg1 {l : Nat} (h : l ≤ 2) : ¬ nI l = -1 := fun z => (by decide : ∀ l : Nat, l ≤ 2 → ¬ nI l = -1) l h z
set_option maxHeartbeats 4000000 in
set_option maxRecDepth 100000 in
theorem c_X3_isMissing (l : Launch) (G : Gx) (M : Mem) (r : Nat) (hr : r ≤ 7) : Con l G yX3_isMissing cX3_isMissing 1 (some .boolean) 0 0 [.ref (gA G (45 + r))] M (rI (bI (M (45 + r) 1 = -1)) M) := by
  refine Con.ofV [some (.ref (gA G (45 + r)))] RX3 (by decide) rfl (Nat.le_of_ble_eq_true rfl) rfl ?_
  intro κ hl hG hk0 hn0
  subst hl hG
  have hcs : κ.k ≤ 0 ∧ κ.n ≤ 0 := ⟨Nat.le_of_eq hk0, Nat.le_of_eq hn0⟩
  refine r_aload_n (pc := 0) dX3_isMissing_0 rfl ?_
  refine gf_X3_15 (pc := 1) dX3_isMissing_1 (clsO_row (by omega) (by omega)) ?_
  refine r_iconst (v := (-1)) (pc := 4) dX3_isMissing_4 (by decide) ?_
  refine r_icmp_ne (tgt := 12) (pc := 5) dX3_isMissing_5 (by decide) (fun h5 => ?_) (fun h5 => ?_)
  · have hp : ¬ M (45 + r) 1 = -1 := h5
    refine r_iconst (v := nI 0) (pc := 12) dX3_isMissing_12 (by decide) ?_
    exact r_zret (pc := 13) dX3_isMissing_13 rfl (by first | rfl | exact bI_narrow) (by first | exact rI_1 hp | exact rI_0 hp)
  · have hp : M (45 + r) 1 = -1 := h5
    refine r_iconst (v := nI 1) (pc := 8) dX3_isMissing_8 (by decide) ?_
    refine r_goto (tgt := 13) (pc := 9) dX3_isMissing_9 (by decide) ?_
    exact r_zret (pc := 13) dX3_isMissing_13 rfl (by first | rfl | exact bI_narrow) (by first | exact rI_1 hp | exact rI_0 hp)
set_option maxHeartbeats 4000000 in
set_option maxRecDepth 100000 in
theorem c_X3_begin (l : Launch) (G : Gx) (M : Mem) (r : Nat) (hr : r ≤ 7) (a b : Int32) : Con l G yX3_begin cX3_begin 3 none 1 60 [.ref (gA G (45 + r)), .int a, .int b] M (rV (setA (mset (mset M (45 + r) 1 a) (45 + r) 2 b) (53 + r) (pt (M (53 + r)) (fun _ => nI 0) 40))) := by
  refine Con.ofV [some (.ref (gA G (45 + r))), some (.int a), some (.int b)] RX3 (by decide) rfl (Nat.le_of_ble_eq_true rfl) rfl ?_
  intro κ hl hG hk0 hn0
  subst hl hG
  have hcs : κ.k ≤ 0 ∧ κ.n ≤ 0 := ⟨Nat.le_of_eq hk0, Nat.le_of_eq hn0⟩
  refine r_aload_n (pc := 0) dX3_begin_0 rfl ?_
  refine r_iload_n (pc := 1) dX3_begin_1 rfl ?_
  refine pf_X3_15 (pc := 2) dX3_begin_2 (clsO_row (by omega) (by omega)) ?_
  refine r_aload_n (pc := 5) dX3_begin_5 rfl ?_
  refine r_iload_n (pc := 6) dX3_begin_6 rfl ?_
  refine pf_X3_19 (pc := 7) dX3_begin_7 (clsO_row (by omega) (by omega)) ?_
  refine r_aload_n (pc := 10) dX3_begin_10 rfl ?_
  refine gf_X3_9 (pc := 11) dX3_begin_11 (clsO_row (by omega) (by omega)) ?_
  refine r_iconst (v := nI 0) (pc := 14) dX3_begin_14 (by decide) ?_
  refine iv_X3_22 (c_J7_fill _ _ _ (45 + r + 8) (nI 0) (isIA_hi (by omega) (by omega))) (pc := 15) dX3_begin_15 ⟨Nat.le_of_ble_eq_true rfl, Nat.le_of_ble_eq_true rfl⟩ (Nat.le_of_ble_eq_true rfl) hcs (kV ?_)
  refine V.mem (M' := setA (mset (mset M (45 + r) 1 a) (45 + r) 2 b) (53 + r) (pt (M (53 + r)) (fun _ => nI 0) 40)) (by rw [show 45 + r + 8 = 53 + r by omega, lenA_items (by omega) (by omega), mset_ne _ _ _ (by omega), mset_ne _ _ _ (by omega)]) ?_
  exact r_vret (pc := 18) dX3_begin_18 rfl ⟨rfl, rfl⟩
set_option maxHeartbeats 4000000 in
set_option maxRecDepth 100000 in
theorem c_X3_end (l : Launch) (G : Gx) (M : Mem) (r : Nat) (hr : r ≤ 7) : Con l G yX3_end cX3_end 1 (some .int) 0 0 [.ref (gA G (45 + r))] M (rI (M (45 + r) 2) (mset M (45 + r) 1 (-1))) := by
  refine Con.ofV [some (.ref (gA G (45 + r)))] RX3 (by decide) rfl (Nat.le_of_ble_eq_true rfl) rfl ?_
  intro κ hl hG hk0 hn0
  subst hl hG
  have hcs : κ.k ≤ 0 ∧ κ.n ≤ 0 := ⟨Nat.le_of_eq hk0, Nat.le_of_eq hn0⟩
  refine r_aload_n (pc := 0) dX3_end_0 rfl ?_
  refine r_iconst (v := (-1)) (pc := 1) dX3_end_1 (by decide) ?_
  refine pf_X3_15 (pc := 2) dX3_end_2 (clsO_row (by omega) (by omega)) ?_
  refine r_aload_n (pc := 5) dX3_end_5 rfl ?_
  refine gf_X3_19 (pc := 6) dX3_end_6 (clsO_row (by omega) (by omega)) ?_
  refine r_is (M (45 + r) 2) (by rw [mset_eq, pk_un (by decide)]) ?_
  exact r_iret (pc := 9) dX3_end_9 rfl ⟨rfl, rfl⟩
set_option maxHeartbeats 4000000 in
set_option maxRecDepth 100000 in
theorem c_X3_holds (l : Launch) (G : Gx) (M : Mem) (r : Nat) (hr : r ≤ 7) (i w : Int32) : Con l G yX3_holds cX3_holds 3 (some .boolean) 0 0 [.ref (gA G (45 + r)), .int i, .int w] M (rI (bI (0 ≤ i ∧ 0 ≤ w ∧ i ≤ M (45 + r) 2 - w)) M) := by
  refine Con.ofV [some (.ref (gA G (45 + r))), some (.int i), some (.int w)] RX3 (by decide) rfl (Nat.le_of_ble_eq_true rfl) rfl ?_
  intro κ hl hG hk0 hn0
  subst hl hG
  have hcs : κ.k ≤ 0 ∧ κ.n ≤ 0 := ⟨Nat.le_of_eq hk0, Nat.le_of_eq hn0⟩
  refine r_iload_n (pc := 0) dX3_holds_0 rfl ?_
  refine r_if_lt (tgt := 22) (pc := 1) dX3_holds_1 (by decide) (fun h1 => ?_) (fun h1 => ?_)
  · have hp : ¬ (0 ≤ i ∧ 0 ≤ w ∧ i ≤ M (45 + r) 2 - w) := fun z => (fa_of_lt h1).2.1 z.1
    refine r_iconst (v := nI 0) (pc := 22) dX3_holds_22 (by decide) ?_
    exact r_zret (pc := 23) dX3_holds_23 rfl (by first | rfl | exact bI_narrow) (by first | exact rI_1 hp | exact rI_0 hp)
  · refine r_iload_n (pc := 4) dX3_holds_4 rfl ?_
    refine r_if_lt (tgt := 22) (pc := 5) dX3_holds_5 (by decide) (fun h5 => ?_) (fun h5 => ?_)
    · have hp : ¬ (0 ≤ i ∧ 0 ≤ w ∧ i ≤ M (45 + r) 2 - w) := fun z => (fa_of_lt h5).2.1 z.2.1
      refine r_iconst (v := nI 0) (pc := 22) dX3_holds_22 (by decide) ?_
      exact r_zret (pc := 23) dX3_holds_23 rfl (by first | rfl | exact bI_narrow) (by first | exact rI_1 hp | exact rI_0 hp)
    · refine r_iload_n (pc := 8) dX3_holds_8 rfl ?_
      refine r_aload_n (pc := 9) dX3_holds_9 rfl ?_
      refine gf_X3_19 (pc := 10) dX3_holds_10 (clsO_row (by omega) (by omega)) ?_
      refine r_iload_n (pc := 13) dX3_holds_13 rfl ?_
      first | (with_reducible refine r_isubN (pc := 14) dX3_holds_14 ?hle ?_; case hle => omega) | refine r_isub (pc := 14) dX3_holds_14 ?_
      refine r_icmp_gt (tgt := 22) (pc := 15) dX3_holds_15 (by decide) (fun h15 => ?_) (fun h15 => ?_)
      · have hp : ¬ (0 ≤ i ∧ 0 ≤ w ∧ i ≤ M (45 + r) 2 - w) := fun z => (fa_of_lt h15).2.1 z.2.2
        refine r_iconst (v := nI 0) (pc := 22) dX3_holds_22 (by decide) ?_
        exact r_zret (pc := 23) dX3_holds_23 rfl (by first | rfl | exact bI_narrow) (by first | exact rI_1 hp | exact rI_0 hp)
      · have hp : 0 ≤ i ∧ 0 ≤ w ∧ i ≤ M (45 + r) 2 - w := ⟨fa_of_nlt h1, fa_of_nlt h5, fa_of_nlt h15⟩
        refine r_iconst (v := nI 1) (pc := 18) dX3_holds_18 (by decide) ?_
        refine r_goto (tgt := 23) (pc := 19) dX3_holds_19 (by decide) ?_
        exact r_zret (pc := 23) dX3_holds_23 rfl (by first | rfl | exact bI_narrow) (by first | exact rI_1 hp | exact rI_0 hp)
set_option maxHeartbeats 4000000 in
set_option maxRecDepth 100000 in
theorem c_X3_put (l : Launch) (G : Gx) (M : Mem) (r : Nat) (hr : r ≤ 7) (q : Nat) (v : Int32) (hq : q < 40) : Con l G yX3_put cX3_put 3 (some .int) 0 0 [.ref (gA G (45 + r)), .int (nI q), .int v] M (rI (laneV (M (45 + r) 1) v) (mset M (53 + r) q (laneV (M (45 + r) 1) v))) := by
  refine Con.ofV [some (.ref (gA G (45 + r))), some (.int (nI q)), some (.int v)] RX3 (by decide) rfl (Nat.le_of_ble_eq_true rfl) rfl ?_
  intro κ hl hG hk0 hn0
  subst hl hG
  have hcs : κ.k ≤ 0 ∧ κ.n ≤ 0 := ⟨Nat.le_of_eq hk0, Nat.le_of_eq hn0⟩
  have J31 : ∀ u : Int32, u = laneV (M (45 + r) 1) v → V κ cX3_put RX3 3 (some .int) (rmx 0 0) (QM κ (rI (laneV (M (45 + r) 1) v) (mset M (53 + r) q (laneV (M (45 + r) 1) v)))) M 31 [some (.ref (gA κ.G (45 + r))), some (.int (nI q)), some (.int v)] [.int u, .int (nI q), .ref (gA κ.G (45 + r + 8))] := by
    rintro _ rfl
    refine r_iast (pc := 31) dX3_put_31 (isIA_hi (by omega) (by omega)) (by rw [lenA_items (by omega) (by omega)]; omega) ?_
    refine r_aload_n (pc := 32) dX3_put_32 rfl ?_
    refine gf_X3_9 (pc := 33) dX3_put_33 (clsO_row (by omega) (by omega)) ?_
    refine r_iload_n (pc := 36) dX3_put_36 rfl ?_
    refine r_iald (pc := 37) dX3_put_37 (isIA_hi (by omega) (by omega)) (by rw [lenA_items (by omega) (by omega)]; omega) ?_
    refine r_is (laneV (M (45 + r) 1) v) (by rw [mset_eq, pk_us]) ?_
    rw [show 45 + r + 8 = 53 + r by omega]
    exact r_iret (pc := 38) dX3_put_38 rfl ⟨rfl, rfl⟩
  refine r_aload_n (pc := 0) dX3_put_0 rfl ?_
  refine gf_X3_9 (pc := 1) dX3_put_1 (clsO_row (by omega) (by omega)) ?_
  refine r_iload_n (pc := 4) dX3_put_4 rfl ?_
  refine r_aload_n (pc := 5) dX3_put_5 rfl ?_
  refine gf_X3_15 (pc := 6) dX3_put_6 (clsO_row (by omega) (by omega)) ?_
  refine r_if_ne (tgt := 17) (pc := 9) dX3_put_9 (by decide) (fun h9 => ?_) (fun h9 => ?_)
  · refine r_aload_n (pc := 17) dX3_put_17 rfl ?_
    refine gf_X3_15 (pc := 18) dX3_put_18 (clsO_row (by omega) (by omega)) ?_
    refine r_iconst (v := nI 1) (pc := 21) dX3_put_21 (by decide) ?_
    refine r_icmp_ne (tgt := 30) (pc := 22) dX3_put_22 (by decide) (fun h22 => ?_) (fun h22 => ?_)
    · refine r_iload_n (pc := 30) dX3_put_30 rfl ?_
      exact J31 _ (by unfold laneV; rw [if_neg h9, if_neg h22])
    · refine r_iload_n (pc := 25) dX3_put_25 rfl ?_
      refine r_i2s (pc := 26) dX3_put_26 ?_
      refine r_goto (tgt := 31) (pc := 27) dX3_put_27 (by decide) ?_
      exact J31 _ (by unfold laneV; rw [if_neg h9, if_pos h22]; exact lane_s v)
  · refine r_iload_n (pc := 12) dX3_put_12 rfl ?_
    refine r_i2b (pc := 13) dX3_put_13 ?_
    refine r_goto (tgt := 31) (pc := 14) dX3_put_14 (by decide) ?_
    exact J31 _ (by unfold laneV; rw [if_pos h9]; exact lane_b v)
set_option maxHeartbeats 4000000 in
set_option maxRecDepth 100000 in
theorem c_X5_findingOfItems (l : Launch) (G : Gx) (M : Mem) (r : Nat) (hr : r ≤ 7) (i : Int32) (m : Nat) (hm40 : m ≤ 40) (hW : rwR M) : Con l G yX5_findingOfItems cX5_findingOfItems 4 (some .int) 1 22 [.ref (gA G 14), .int (nI r), .int i, .int (nI m)] M (qE (fun c N5 => c ≤ 2 ∧ LC (M 2 r) i m c ∧ M = N5)) := by
  refine Con.ofV [some (.ref (gA G 14)), some (.int (nI r)), some (.int i), some (.int (nI m))] RX5 (by decide) rfl (Nat.le_of_ble_eq_true rfl) rfl ?_
  intro κ hl hG hk0 hn0
  subst hl hG
  have hcs : κ.k ≤ 0 ∧ κ.n ≤ 0 := ⟨Nat.le_of_eq hk0, Nat.le_of_eq hn0⟩
  refine r_aload_n (pc := 0) dX5_findingOfItems_0 rfl ?_
  refine gf_X5_11 (pc := 1) dX5_findingOfItems_1 rfl ?_
  refine r_iload_n (pc := 4) dX5_findingOfItems_4 rfl ?_
  refine r_aaR (pc := 5) dX5_findingOfItems_5 (by omega) ?_
  refine iv_X5_87 (c_X3_isMissing _ _ _ _ (by omega)) (pc := 6) dX5_findingOfItems_6 (clsO_row (by omega) (by omega)) ⟨Nat.le_of_ble_eq_true rfl, Nat.le_of_ble_eq_true rfl⟩ (Nat.le_of_ble_eq_true rfl) hcs (kI ?_)
  refine r_ifeq_b (tgt := 14) (pc := 9) dX5_findingOfItems_9 (by decide) (fun h9 => ?_) (fun h9 => ?_)
  · obtain ⟨s, l, hs, hl, e2, e3, -⟩ := (hW r hr).resolve_left (fun z => h9 z.2)
    have hh := hold_it (i := i) hs hm40
    rw [← e3] at hh
    refine r_aload_n (pc := 14) dX5_findingOfItems_14 rfl ?_
    refine gf_X5_11 (pc := 15) dX5_findingOfItems_15 rfl ?_
    refine r_iload_n (pc := 18) dX5_findingOfItems_18 rfl ?_
    refine r_aaR (pc := 19) dX5_findingOfItems_19 (by omega) ?_
    refine r_iload_n (pc := 20) dX5_findingOfItems_20 rfl ?_
    refine r_iload_n (pc := 21) dX5_findingOfItems_21 rfl ?_
    refine iv_X5_95 (c_X3_holds _ _ _ _ (by omega) _ _) (pc := 22) dX5_findingOfItems_22 (clsO_row (by omega) (by omega)) ⟨Nat.le_of_ble_eq_true rfl, Nat.le_of_ble_eq_true rfl⟩ (Nat.le_of_ble_eq_true rfl) hcs (kI ?_)
    refine r_ifeq_b (tgt := 32) (pc := 25) dX5_findingOfItems_25 (by decide) (fun h25 => ?_) (fun h25 => ?_)
    · have hL : LC (M 2 r) i m 2 := Or.inr ⟨s, e2, hs, Or.inr ⟨rfl, fun z => h25 (hh.mpr z)⟩⟩
      refine r_iconst (v := nI 2) (pc := 32) dX5_findingOfItems_32 (by decide) ?_
      exact r_iret (pc := 33) dX5_findingOfItems_33 rfl (by first | exact ⟨2, rfl, by omega, hL, rfl⟩ | exact ⟨0, rfl, by omega, hL, rfl⟩)
    · have hL : LC (M 2 r) i m 0 := Or.inr ⟨s, e2, hs, Or.inl ⟨rfl, hh.mp h25⟩⟩
      refine r_iconst (v := nI 0) (pc := 28) dX5_findingOfItems_28 (by decide) ?_
      refine r_goto (tgt := 33) (pc := 29) dX5_findingOfItems_29 (by decide) ?_
      exact r_iret (pc := 33) dX5_findingOfItems_33 rfl (by first | exact ⟨2, rfl, by omega, hL, rfl⟩ | exact ⟨0, rfl, by omega, hL, rfl⟩)
  · have hL : LC (M 2 r) i m 1 := Or.inl ⟨rfl, by rcases hW r hr with z | ⟨s, l, -, hl, -, -, -, z, -⟩; exact z.1; rw [z] at h9; exact absurd h9 (neg1 hl)⟩
    refine r_iconst (v := nI 1) (pc := 12) dX5_findingOfItems_12 (by decide) ?_
    exact r_iret (pc := 13) dX5_findingOfItems_13 rfl ⟨1, rfl, by omega, hL, rfl⟩
set_option maxHeartbeats 4000000 in
set_option maxRecDepth 100000 in
theorem c_X5_row (l : Launch) (G : Gx) (M : Mem) (x y z : Int32) : Con l G yX5_row cX5_row 4 (some .int) 2 82 [.ref (gA G 14), .int x, .int y, .int z] M (fun v M' => (¬ (rgG 0 7 x ∧ rgG 0 2 y ∧ z ≤ nI 40) ∧ rI cBad M v M') ∨ (∃ r q, r ≤ 7 ∧ q ≤ 2 ∧ x = nI r ∧ y = nI q ∧ z ≤ nI 40 ∧ ((z < 0 ∧ rI (fnV 4) (mset M 14 11 (nI 4)) v M') ∨ (∃ s, s ≤ 40 ∧ z = nI s ∧ rI (nI s) (mset (setA (mset (mset M (45 + r) 1 (nI q)) (45 + r) 2 (nI s)) (53 + r) (pt (M (53 + r)) (fun _ => nI 0) 40)) 14 11 (nI 0)) v M')))) := by
  refine Con.ofV [some (.ref (gA G 14)), some (.int x), some (.int y), some (.int z)] RX5 (by decide) rfl (Nat.le_of_ble_eq_true rfl) rfl ?_
  intro κ hl hG hk0 hn0
  subst hl hG
  have hcs : κ.k ≤ 0 ∧ κ.n ≤ 0 := ⟨Nat.le_of_eq hk0, Nat.le_of_eq hn0⟩
  generalize hPP : (fun v M' => (¬ (rgG 0 7 x ∧ rgG 0 2 y ∧ z ≤ nI 40) ∧ rI cBad M v M') ∨ (∃ r q, r ≤ 7 ∧ q ≤ 2 ∧ x = nI r ∧ y = nI q ∧ z ≤ nI 40 ∧ ((z < 0 ∧ rI (fnV 4) (mset M 14 11 (nI 4)) v M') ∨ (∃ s, s ≤ 40 ∧ z = nI s ∧ rI (nI s) (mset (setA (mset (mset M (45 + r) 1 (nI q)) (45 + r) 2 (nI s)) (53 + r) (pt (M (53 + r)) (fun _ => nI 0) 40)) 14 11 (nI 0)) v M')))) = PP
  refine r_iload_n (pc := 0) dX5_row_0 rfl ?_
  refine iv_X5_59 (c_X5_isRow _ _ _ _) (pc := 1) dX5_row_1 ⟨Nat.le_of_ble_eq_true rfl, Nat.le_of_ble_eq_true rfl⟩ (Nat.le_of_ble_eq_true rfl) hcs (kI ?_)
  refine r_ifeq_b (tgt := 22) (pc := 4) dX5_row_4 (by decide) (fun h4 => ?_) (fun h4 => ?_)
  · have g4 : ¬ rgG 0 7 x := fun z => h4 (rg_mpr z (by omega))
    refine r_ldc (pc := 22) dX5_row_22 lk_X5_67 ?_
    exact r_iret (pc := 24) dX5_row_24 rfl (by subst hPP; exact (Or.inl ⟨by first | exact fun z => g4 z.1 | exact fun z => g13 z.2.1 | exact fun z => h19 z.2.2, rfl, rfl⟩))
  · obtain ⟨r, -, hr, rfl⟩ := rg_mp (a := 0) (b := 7) h4 (by omega) (by omega)
    refine r_iload_n (pc := 7) dX5_row_7 rfl ?_
    refine r_iconst (v := nI 0) (pc := 8) dX5_row_8 (by decide) ?_
    refine r_iconst (v := nI 2) (pc := 9) dX5_row_9 (by decide) ?_
    refine iv_X5_63 (c_X5_within _ _ _ _ _ _) (pc := 10) dX5_row_10 ⟨Nat.le_of_ble_eq_true rfl, Nat.le_of_ble_eq_true rfl⟩ (Nat.le_of_ble_eq_true rfl) hcs (kI ?_)
    refine r_ifeq_b (tgt := 22) (pc := 13) dX5_row_13 (by decide) (fun h13 => ?_) (fun h13 => ?_)
    · have g13 : ¬ rgG 0 2 y := fun z => h13 (rg_mpr z (by omega))
      refine r_ldc (pc := 22) dX5_row_22 lk_X5_67 ?_
      exact r_iret (pc := 24) dX5_row_24 rfl (by subst hPP; exact (Or.inl ⟨by first | exact fun z => g4 z.1 | exact fun z => g13 z.2.1 | exact fun z => h19 z.2.2, rfl, rfl⟩))
    · obtain ⟨q, hqa, hqb, rfl⟩ := rg_mp (a := 0) (b := 2) h13 (by omega) (by omega)
      refine r_iload_n (pc := 16) dX5_row_16 rfl ?_
      refine r_bipush (v := nI 40) (pc := 17) dX5_row_17 (by decide) ?_
      refine r_icmp_le (tgt := 25) (pc := 19) dX5_row_19 (by decide) (fun h19 => ?_) (fun h19 => ?_)
      · refine r_iload_n (pc := 25) dX5_row_25 rfl ?_
        refine r_if_ge (tgt := 35) (pc := 26) dX5_row_26 (by decide) (fun h26 => ?_) (fun h26 => ?_)
        · obtain ⟨s, hs, rfl⟩ := le_of_le_nI h26 h19 (by omega)
          refine r_aload_n (pc := 35) dX5_row_35 rfl ?_
          refine gf_X5_11 (pc := 36) dX5_row_36 rfl ?_
          refine r_iload_n (pc := 39) dX5_row_39 rfl ?_
          refine r_aaR (pc := 40) dX5_row_40 (by omega) ?_
          refine r_iload_n (pc := 41) dX5_row_41 rfl ?_
          refine r_iload_n (pc := 42) dX5_row_42 rfl ?_
          refine iv_X5_72 (c_X3_begin _ _ _ _ (by omega) _ _) (pc := 43) dX5_row_43 (clsO_row (by omega) (by omega)) ⟨Nat.le_of_ble_eq_true rfl, Nat.le_of_ble_eq_true rfl⟩ (Nat.le_of_ble_eq_true rfl) hcs (kV ?_)
          refine r_aload_n (pc := 46) dX5_row_46 rfl ?_
          refine r_iload_n (pc := 47) dX5_row_47 rfl ?_
          refine iv_X5_76 (c_X5_nothingFound _ _ _ _) (pc := 48) dX5_row_48 rfl ⟨Nat.le_of_ble_eq_true rfl, Nat.le_of_ble_eq_true rfl⟩ (Nat.le_of_ble_eq_true rfl) hcs (kI ?_)
          exact r_iret (pc := 51) dX5_row_51 rfl (by subst hPP; exact (Or.inr ⟨r, q, hr, hqb, rfl, rfl, h19, Or.inr ⟨s, hs, rfl, rfl, rfl⟩⟩))
        · have h26 := fa_of_nle h26
          refine r_aload_n (pc := 29) dX5_row_29 rfl ?_
          refine r_iconst (v := nI 4) (pc := 30) dX5_row_30 (by decide) ?_
          refine iv_X5_68 (c_X5_found _ _ _ _) (pc := 31) dX5_row_31 rfl ⟨Nat.le_of_ble_eq_true rfl, Nat.le_of_ble_eq_true rfl⟩ (Nat.le_of_ble_eq_true rfl) hcs (kI ?_)
          exact r_iret (pc := 34) dX5_row_34 rfl (by subst hPP; exact (Or.inr ⟨r, q, hr, hqb, rfl, rfl, h19, Or.inl ⟨h26, rfl, rfl⟩⟩))
      · refine r_ldc (pc := 22) dX5_row_22 lk_X5_67 ?_
        exact r_iret (pc := 24) dX5_row_24 rfl (by subst hPP; exact (Or.inl ⟨by first | exact fun z => g4 z.1 | exact fun z => g13 z.2.1 | exact fun z => h19 z.2.2, rfl, rfl⟩))
set_option maxHeartbeats 4000000 in
set_option maxRecDepth 100000 in
theorem c_X5_set (l : Launch) (G : Gx) (M : Mem) (x i u : Int32) (hW : rwR M) : Con l G yX5_set cX5_set 5 (some .int) 2 45 [.ref (gA G 14), .int x, .int i, .int u] M (fun v M' => (¬ rgG 0 7 x ∧ rI cBad M v M') ∨ (∃ r c, r ≤ 7 ∧ x = nI r ∧ LC (M 2 r) i 1 c ∧ ((c ≠ 0 ∧ rI (fnV c) (mset M 14 11 (nI c)) v M') ∨ (c = 0 ∧ ∃ q, q < 40 ∧ i = nI q ∧ rI (laneV (M (45 + r) 1) u) (mset (mset M (53 + r) q (laneV (M (45 + r) 1) u)) 14 11 (nI 0)) v M')))) := by
  refine Con.ofV [some (.ref (gA G 14)), some (.int x), some (.int i), some (.int u), none] RX5 (by decide) rfl (Nat.le_of_ble_eq_true rfl) rfl ?_
  intro κ hl hG hk0 hn0
  subst hl hG
  have hcs : κ.k ≤ 0 ∧ κ.n ≤ 0 := ⟨Nat.le_of_eq hk0, Nat.le_of_eq hn0⟩
  generalize hPP : (fun v M' => (¬ rgG 0 7 x ∧ rI cBad M v M') ∨ (∃ r c, r ≤ 7 ∧ x = nI r ∧ LC (M 2 r) i 1 c ∧ ((c ≠ 0 ∧ rI (fnV c) (mset M 14 11 (nI c)) v M') ∨ (c = 0 ∧ ∃ q, q < 40 ∧ i = nI q ∧ rI (laneV (M (45 + r) 1) u) (mset (mset M (53 + r) q (laneV (M (45 + r) 1) u)) 14 11 (nI 0)) v M')))) = PP
  refine r_iload_n (pc := 0) dX5_set_0 rfl ?_
  refine iv_X5_59 (c_X5_isRow _ _ _ _) (pc := 1) dX5_set_1 ⟨Nat.le_of_ble_eq_true rfl, Nat.le_of_ble_eq_true rfl⟩ (Nat.le_of_ble_eq_true rfl) hcs (kI ?_)
  refine r_ifne_b (tgt := 10) (pc := 4) dX5_set_4 (by decide) (fun h4 => ?_) (fun h4 => ?_)
  · obtain ⟨r, -, hr, rfl⟩ := rg_mp (a := 0) (b := 7) h4 (by omega) (by omega)
    refine r_aload_n (pc := 10) dX5_set_10 rfl ?_
    refine r_iload_n (pc := 11) dX5_set_11 rfl ?_
    refine r_iload_n (pc := 12) dX5_set_12 rfl ?_
    refine r_iconst (v := nI 1) (pc := 13) dX5_set_13 (by decide) ?_
    refine iv_X5_79 (c_X5_findingOfItems _ _ _ r hr i 1 (by omega) hW) (pc := 14) dX5_set_14 rfl ⟨Nat.le_of_ble_eq_true rfl, Nat.le_of_ble_eq_true rfl⟩ (Nat.le_of_ble_eq_true rfl) hcs (kqE (fun c14 N14 r14 => ?_))
    obtain ⟨hc2, hLC, rfl⟩ := r14
    refine r_st [_, _, _, _, _] (pc := 17) dX5_set_17 (by decide) rfl rfl ?_
    refine r_iload (pc := 19) dX5_set_19 rfl ?_
    refine r_if_eq (tgt := 31) (pc := 21) dX5_set_21 (by decide) (fun h21 => ?_) (fun h21 => ?_)
    · have hc0 : c14 = 0 := (nI_eq (by omega) (by omega)).mp (h21.trans nI_0.symm)
      subst hc0
      obtain ⟨s, p, -, hs, rfl, hp⟩ := LC_0 hLC
      refine r_aload_n (pc := 31) dX5_set_31 rfl ?_
      refine r_aload_n (pc := 32) dX5_set_32 rfl ?_
      refine gf_X5_11 (pc := 33) dX5_set_33 rfl ?_
      refine r_iload_n (pc := 36) dX5_set_36 rfl ?_
      refine r_aaR (pc := 37) dX5_set_37 (by omega) ?_
      refine r_iload_n (pc := 38) dX5_set_38 rfl ?_
      refine r_iload_n (pc := 39) dX5_set_39 rfl ?_
      refine iv_X5_83 (c_X3_put _ _ _ r hr p u (by omega)) (pc := 40) dX5_set_40 (clsO_row (by omega) (by omega)) ⟨Nat.le_of_ble_eq_true rfl, Nat.le_of_ble_eq_true rfl⟩ (Nat.le_of_ble_eq_true rfl) hcs (kI ?_)
      refine iv_X5_76 (c_X5_nothingFound _ _ _ _) (pc := 43) dX5_set_43 rfl ⟨Nat.le_of_ble_eq_true rfl, Nat.le_of_ble_eq_true rfl⟩ (Nat.le_of_ble_eq_true rfl) hcs (kI ?_)
      exact r_iret (pc := 46) dX5_set_46 rfl (by subst hPP; exact (Or.inr ⟨r, 0, hr, rfl, hLC, Or.inr ⟨rfl, p, by omega, rfl, rfl, rfl⟩⟩))
    · have hc0 : c14 ≠ 0 := fun z => h21 (by rw [z]; rfl)
      refine r_aload_n (pc := 24) dX5_set_24 rfl ?_
      refine r_iload (pc := 25) dX5_set_25 rfl ?_
      refine iv_X5_68 (c_X5_found _ _ _ _) (pc := 27) dX5_set_27 rfl ⟨Nat.le_of_ble_eq_true rfl, Nat.le_of_ble_eq_true rfl⟩ (Nat.le_of_ble_eq_true rfl) hcs (kI ?_)
      exact r_iret (pc := 30) dX5_set_30 rfl (by subst hPP; exact (Or.inr ⟨r, c14, hr, rfl, hLC, Or.inl ⟨hc0, rfl, rfl⟩⟩))
  · have g4 : ¬ rgG 0 7 x := fun z => h4 (rg_mpr z (by omega))
    refine r_ldc (pc := 7) dX5_set_7 lk_X5_67 ?_
    exact r_iret (pc := 9) dX5_set_9 rfl (by subst hPP; exact (Or.inl ⟨g4, rfl, rfl⟩))
set_option maxHeartbeats 4000000 in
set_option maxRecDepth 100000 in
theorem c_X5_drop (l : Launch) (G : Gx) (M : Mem) (x : Int32) : Con l G yX5_drop cX5_drop 2 (some .int) 2 42 [.ref (gA G 14), .int x] M (fun v M' => (¬ rgG 0 7 x ∧ rI cBad M v M') ∨ (∃ r, r ≤ 7 ∧ x = nI r ∧ ((M (45 + r) 1 = -1 ∧ rI (fnV 1) (mset M 14 11 (nI 1)) v M') ∨ (¬ M (45 + r) 1 = -1 ∧ rI (M (45 + r) 2) (mset (mset M (45 + r) 1 (-1)) 14 11 (nI 0)) v M')))) := by
  refine Con.ofV [some (.ref (gA G 14)), some (.int x)] RX5 (by decide) rfl (Nat.le_of_ble_eq_true rfl) rfl ?_
  intro κ hl hG hk0 hn0
  subst hl hG
  have hcs : κ.k ≤ 0 ∧ κ.n ≤ 0 := ⟨Nat.le_of_eq hk0, Nat.le_of_eq hn0⟩
  generalize hPP : (fun v M' => (¬ rgG 0 7 x ∧ rI cBad M v M') ∨ (∃ r, r ≤ 7 ∧ x = nI r ∧ ((M (45 + r) 1 = -1 ∧ rI (fnV 1) (mset M 14 11 (nI 1)) v M') ∨ (¬ M (45 + r) 1 = -1 ∧ rI (M (45 + r) 2) (mset (mset M (45 + r) 1 (-1)) 14 11 (nI 0)) v M')))) = PP
  refine r_iload_n (pc := 0) dX5_drop_0 rfl ?_
  refine iv_X5_59 (c_X5_isRow _ _ _ _) (pc := 1) dX5_drop_1 ⟨Nat.le_of_ble_eq_true rfl, Nat.le_of_ble_eq_true rfl⟩ (Nat.le_of_ble_eq_true rfl) hcs (kI ?_)
  refine r_ifne_b (tgt := 10) (pc := 4) dX5_drop_4 (by decide) (fun h4 => ?_) (fun h4 => ?_)
  · obtain ⟨r, -, hr, rfl⟩ := rg_mp (a := 0) (b := 7) h4 (by omega) (by omega)
    refine r_aload_n (pc := 10) dX5_drop_10 rfl ?_
    refine gf_X5_11 (pc := 11) dX5_drop_11 rfl ?_
    refine r_iload_n (pc := 14) dX5_drop_14 rfl ?_
    refine r_aaR (pc := 15) dX5_drop_15 (by omega) ?_
    refine iv_X5_87 (c_X3_isMissing _ _ _ r hr) (pc := 16) dX5_drop_16 (clsO_row (by omega) (by omega)) ⟨Nat.le_of_ble_eq_true rfl, Nat.le_of_ble_eq_true rfl⟩ (Nat.le_of_ble_eq_true rfl) hcs (kI ?_)
    refine r_ifeq_b (tgt := 28) (pc := 19) dX5_drop_19 (by decide) (fun h19 => ?_) (fun h19 => ?_)
    · refine r_aload_n (pc := 28) dX5_drop_28 rfl ?_
      refine r_aload_n (pc := 29) dX5_drop_29 rfl ?_
      refine gf_X5_11 (pc := 30) dX5_drop_30 rfl ?_
      refine r_iload_n (pc := 33) dX5_drop_33 rfl ?_
      refine r_aaR (pc := 34) dX5_drop_34 (by omega) ?_
      refine iv_X5_108 (c_X3_end _ _ _ r hr) (pc := 35) dX5_drop_35 (clsO_row (by omega) (by omega)) ⟨Nat.le_of_ble_eq_true rfl, Nat.le_of_ble_eq_true rfl⟩ (Nat.le_of_ble_eq_true rfl) hcs (kI ?_)
      refine iv_X5_76 (c_X5_nothingFound _ _ _ _) (pc := 38) dX5_drop_38 rfl ⟨Nat.le_of_ble_eq_true rfl, Nat.le_of_ble_eq_true rfl⟩ (Nat.le_of_ble_eq_true rfl) hcs (kI ?_)
      exact r_iret (pc := 41) dX5_drop_41 rfl (by subst hPP; exact (Or.inr ⟨r, hr, rfl, Or.inr ⟨h19, rfl, rfl⟩⟩))
    · refine r_aload_n (pc := 22) dX5_drop_22 rfl ?_
      refine r_iconst (v := nI 1) (pc := 23) dX5_drop_23 (by decide) ?_
      refine iv_X5_68 (c_X5_found _ _ _ _) (pc := 24) dX5_drop_24 rfl ⟨Nat.le_of_ble_eq_true rfl, Nat.le_of_ble_eq_true rfl⟩ (Nat.le_of_ble_eq_true rfl) hcs (kI ?_)
      exact r_iret (pc := 27) dX5_drop_27 rfl (by subst hPP; exact (Or.inr ⟨r, hr, rfl, Or.inl ⟨h19, rfl, rfl⟩⟩))
  · have g4 : ¬ rgG 0 7 x := fun z => h4 (rg_mpr z (by omega))
    refine r_ldc (pc := 7) dX5_drop_7 lk_X5_67 ?_
    exact r_iret (pc := 9) dX5_drop_9 rfl (by subst hPP; exact (Or.inl ⟨g4, rfl, rfl⟩))
set_option maxHeartbeats 4000000 in
set_option maxRecDepth 100000 in
theorem c_X5_copy (l : Launch) (G : Gx) (M : Mem) (x i y j w : Int32) (hW : rwR M) : Con l G yX5_copy cX5_copy 8 (some .int) 2 60 [.ref (gA G 14), .int x, .int i, .int y, .int j, .int w] M (fun v M' => (¬ (rgG 0 7 x ∧ rgG 0 7 y) ∧ rI cBad M v M') ∨ (∃ a b, a ≤ 7 ∧ b ≤ 7 ∧ x = nI a ∧ y = nI b ∧ (((M (45 + a) 1 = -1 ∨ M (45 + b) 1 = -1) ∧ rI (fnV 1) (mset M 14 11 (nI 1)) v M') ∨ (¬ (M (45 + a) 1 = -1 ∨ M (45 + b) 1 = -1) ∧ ((¬ M (45 + a) 1 = M (45 + b) 1 ∧ rI (fnV 5) (mset M 14 11 (nI 5)) v M') ∨ (M (45 + a) 1 = M (45 + b) 1 ∧ ((¬ ((0 ≤ i ∧ 0 ≤ w ∧ i ≤ M (45 + a) 2 - w) ∧ (0 ≤ j ∧ 0 ≤ w ∧ j ≤ M (45 + b) 2 - w)) ∧ rI (fnV 2) (mset M 14 11 (nI 2)) v M') ∨ ((0 ≤ i ∧ 0 ≤ w ∧ i ≤ M (45 + a) 2 - w) ∧ (0 ≤ j ∧ 0 ≤ w ∧ j ≤ M (45 + b) 2 - w) ∧ ∃ p q m, p + m ≤ 40 ∧ q + m ≤ 40 ∧ i = nI p ∧ j = nI q ∧ w = nI m ∧ rI (nI m) (mset (setA M (53 + b) (va_cpy (M (53 + a)) (M (53 + b)) p q m)) 14 11 (nI 0)) v M')))))))) := by
  refine Con.ofV [some (.ref (gA G 14)), some (.int x), some (.int i), some (.int y), some (.int j), some (.int w), none, none] RX5 (by decide) rfl (Nat.le_of_ble_eq_true rfl) rfl ?_
  intro κ hl hG hk0 hn0
  subst hl hG
  have hcs : κ.k ≤ 0 ∧ κ.n ≤ 0 := ⟨Nat.le_of_eq hk0, Nat.le_of_eq hn0⟩
  generalize hPP : (fun v M' => (¬ (rgG 0 7 x ∧ rgG 0 7 y) ∧ rI cBad M v M') ∨ (∃ a b, a ≤ 7 ∧ b ≤ 7 ∧ x = nI a ∧ y = nI b ∧ (((M (45 + a) 1 = -1 ∨ M (45 + b) 1 = -1) ∧ rI (fnV 1) (mset M 14 11 (nI 1)) v M') ∨ (¬ (M (45 + a) 1 = -1 ∨ M (45 + b) 1 = -1) ∧ ((¬ M (45 + a) 1 = M (45 + b) 1 ∧ rI (fnV 5) (mset M 14 11 (nI 5)) v M') ∨ (M (45 + a) 1 = M (45 + b) 1 ∧ ((¬ ((0 ≤ i ∧ 0 ≤ w ∧ i ≤ M (45 + a) 2 - w) ∧ (0 ≤ j ∧ 0 ≤ w ∧ j ≤ M (45 + b) 2 - w)) ∧ rI (fnV 2) (mset M 14 11 (nI 2)) v M') ∨ ((0 ≤ i ∧ 0 ≤ w ∧ i ≤ M (45 + a) 2 - w) ∧ (0 ≤ j ∧ 0 ≤ w ∧ j ≤ M (45 + b) 2 - w) ∧ ∃ p q m, p + m ≤ 40 ∧ q + m ≤ 40 ∧ i = nI p ∧ j = nI q ∧ w = nI m ∧ rI (nI m) (mset (setA M (53 + b) (va_cpy (M (53 + a)) (M (53 + b)) p q m)) 14 11 (nI 0)) v M')))))))) = PP
  refine r_iload_n (pc := 0) dX5_copy_0 rfl ?_
  refine iv_X5_59 (c_X5_isRow _ _ _ _) (pc := 1) dX5_copy_1 ⟨Nat.le_of_ble_eq_true rfl, Nat.le_of_ble_eq_true rfl⟩ (Nat.le_of_ble_eq_true rfl) hcs (kI ?_)
  refine r_ifeq_b (tgt := 14) (pc := 4) dX5_copy_4 (by decide) (fun h4 => ?_) (fun h4 => ?_)
  · have g4 : ¬ rgG 0 7 x := fun z => h4 (rg_mpr z (by omega))
    refine r_ldc (pc := 14) dX5_copy_14 lk_X5_67 ?_
    exact r_iret (pc := 16) dX5_copy_16 rfl (by subst hPP; exact (Or.inl ⟨by first | exact fun z => g4 z.1 | exact fun z => g11 z.2, rfl, rfl⟩))
  · obtain ⟨a, -, ha, rfl⟩ := rg_mp (a := 0) (b := 7) h4 (by omega) (by omega)
    refine r_iload_n (pc := 7) dX5_copy_7 rfl ?_
    refine iv_X5_59 (c_X5_isRow _ _ _ _) (pc := 8) dX5_copy_8 ⟨Nat.le_of_ble_eq_true rfl, Nat.le_of_ble_eq_true rfl⟩ (Nat.le_of_ble_eq_true rfl) hcs (kI ?_)
    refine r_ifne_b (tgt := 17) (pc := 11) dX5_copy_11 (by decide) (fun h11 => ?_) (fun h11 => ?_)
    · obtain ⟨b, -, hb, rfl⟩ := rg_mp (a := 0) (b := 7) h11 (by omega) (by omega)
      refine r_aload_n (pc := 17) dX5_copy_17 rfl ?_
      refine gf_X5_11 (pc := 18) dX5_copy_18 rfl ?_
      refine r_iload_n (pc := 21) dX5_copy_21 rfl ?_
      refine r_aaR (pc := 22) dX5_copy_22 (by omega) ?_
      refine r_ast [_, _, _, _, _, _, _, _] (pc := 23) dX5_copy_23 (by decide) rfl rfl ?_
      refine r_aload_n (pc := 25) dX5_copy_25 rfl ?_
      refine gf_X5_11 (pc := 26) dX5_copy_26 rfl ?_
      refine r_iload_n (pc := 29) dX5_copy_29 rfl ?_
      refine r_aaR (pc := 30) dX5_copy_30 (by omega) ?_
      refine r_ast [_, _, _, _, _, _, _, _] (pc := 31) dX5_copy_31 (by decide) rfl rfl ?_
      refine r_aload (pc := 33) dX5_copy_33 rfl ?_
      refine iv_X5_87 (c_X3_isMissing _ _ _ a ha) (pc := 35) dX5_copy_35 (clsO_row (by omega) (by omega)) ⟨Nat.le_of_ble_eq_true rfl, Nat.le_of_ble_eq_true rfl⟩ (Nat.le_of_ble_eq_true rfl) hcs (kI ?_)
      refine r_ifne_b (tgt := 49) (pc := 38) dX5_copy_38 (by decide) (fun h38 => ?_) (fun h38 => ?_)
      · have hmis : M (45 + a) 1 = -1 ∨ M (45 + b) 1 = -1 := Or.inl h38
        refine r_aload_n (pc := 49) dX5_copy_49 rfl ?_
        refine r_iconst (v := nI 1) (pc := 50) dX5_copy_50 (by decide) ?_
        refine iv_X5_68 (c_X5_found _ _ _ _) (pc := 51) dX5_copy_51 rfl ⟨Nat.le_of_ble_eq_true rfl, Nat.le_of_ble_eq_true rfl⟩ (Nat.le_of_ble_eq_true rfl) hcs (kI ?_)
        exact r_iret (pc := 54) dX5_copy_54 rfl (by subst hPP; exact (Or.inr ⟨a, b, ha, hb, rfl, rfl, Or.inl ⟨hmis, rfl, rfl⟩⟩))
      · refine r_aload (pc := 41) dX5_copy_41 rfl ?_
        refine iv_X5_87 (c_X3_isMissing _ _ _ b hb) (pc := 43) dX5_copy_43 (clsO_row (by omega) (by omega)) ⟨Nat.le_of_ble_eq_true rfl, Nat.le_of_ble_eq_true rfl⟩ (Nat.le_of_ble_eq_true rfl) hcs (kI ?_)
        refine r_ifeq_b (tgt := 55) (pc := 46) dX5_copy_46 (by decide) (fun h46 => ?_) (fun h46 => ?_)
        · have hmis : ¬ (M (45 + a) 1 = -1 ∨ M (45 + b) 1 = -1) := fun z => z.elim h38 h46
          refine r_aload (pc := 55) dX5_copy_55 rfl ?_
          refine gf_X5_91 (pc := 57) dX5_copy_57 (clsO_row (by omega) (by omega)) ?_
          refine r_aload (pc := 60) dX5_copy_60 rfl ?_
          refine gf_X5_91 (pc := 62) dX5_copy_62 (clsO_row (by omega) (by omega)) ?_
          refine r_icmp_eq (tgt := 74) (pc := 65) dX5_copy_65 (by decide) (fun h65 => ?_) (fun h65 => ?_)
          · refine r_aload (pc := 74) dX5_copy_74 rfl ?_
            refine r_iload_n (pc := 76) dX5_copy_76 rfl ?_
            refine r_iload (pc := 77) dX5_copy_77 rfl ?_
            refine iv_X5_95 (c_X3_holds _ _ _ a ha i w) (pc := 79) dX5_copy_79 (clsO_row (by omega) (by omega)) ⟨Nat.le_of_ble_eq_true rfl, Nat.le_of_ble_eq_true rfl⟩ (Nat.le_of_ble_eq_true rfl) hcs (kI ?_)
            refine r_ifeq_b (tgt := 97) (pc := 82) dX5_copy_82 (by decide) (fun h82 => ?_) (fun h82 => ?_)
            · have hh : ¬ ((0 ≤ i ∧ 0 ≤ w ∧ i ≤ M (45 + a) 2 - w) ∧ (0 ≤ j ∧ 0 ≤ w ∧ j ≤ M (45 + b) 2 - w)) := fun z => h82 z.1
              refine r_aload_n (pc := 97) dX5_copy_97 rfl ?_
              refine r_iconst (v := nI 2) (pc := 98) dX5_copy_98 (by decide) ?_
              refine iv_X5_68 (c_X5_found _ _ _ _) (pc := 99) dX5_copy_99 rfl ⟨Nat.le_of_ble_eq_true rfl, Nat.le_of_ble_eq_true rfl⟩ (Nat.le_of_ble_eq_true rfl) hcs (kI ?_)
              exact r_iret (pc := 102) dX5_copy_102 rfl (by subst hPP; exact (Or.inr ⟨a, b, ha, hb, rfl, rfl, Or.inr ⟨hmis, Or.inr ⟨h65, Or.inl ⟨hh, rfl, rfl⟩⟩⟩⟩))
            · refine r_aload (pc := 85) dX5_copy_85 rfl ?_
              refine r_iload (pc := 87) dX5_copy_87 rfl ?_
              refine r_iload (pc := 89) dX5_copy_89 rfl ?_
              refine iv_X5_95 (c_X3_holds _ _ _ b hb j w) (pc := 91) dX5_copy_91 (clsO_row (by omega) (by omega)) ⟨Nat.le_of_ble_eq_true rfl, Nat.le_of_ble_eq_true rfl⟩ (Nat.le_of_ble_eq_true rfl) hcs (kI ?_)
              refine r_ifne_b (tgt := 103) (pc := 94) dX5_copy_94 (by decide) (fun h94 => ?_) (fun h94 => ?_)
              · have h82s := h82
                have h94s := h94
                obtain ⟨s, l, hs, -, -, e3, -⟩ := (hW a ha).resolve_left (fun z => h38 z.2)
                obtain ⟨t, l2, ht, -, -, e4, -⟩ := (hW b hb).resolve_left (fun z => h46 z.2)
                rw [e3] at h82
                rw [e4] at h94
                obtain ⟨p, m, rfl, rfl, hp⟩ := (hold_iff hs).mp h82
                obtain ⟨q, m2, rfl, em, hq⟩ := (hold_iff ht).mp h94
                have em2 : m = m2 := (nI_eq (by omega) (by omega)).mp em
                subst em2
                refine r_aload (pc := 103) dX5_copy_103 rfl ?_
                refine gf_X5_99 (pc := 105) dX5_copy_105 (clsO_row (by omega) (by omega)) ?_
                refine r_iload_n (pc := 108) dX5_copy_108 rfl ?_
                refine r_aload (pc := 109) dX5_copy_109 rfl ?_
                refine gf_X5_99 (pc := 111) dX5_copy_111 (clsO_row (by omega) (by omega)) ?_
                refine r_iload (pc := 114) dX5_copy_114 rfl ?_
                refine r_iload (pc := 116) dX5_copy_116 rfl ?_
                refine r_acopy (pc := 118) (a := 45 + a + 8) (b := 45 + b + 8) (x := p) (y := q) (n := m) dX5_copy_118 wl_X5_102 w_acN w_acS w_SysI (isIA_hi (by omega) (by omega)) (isIA_hi (by omega) (by omega)) (by rw [lenA_items (by omega) (by omega)]; omega) (by rw [lenA_items (by omega) (by omega)]; omega) (Nat.le_of_ble_eq_true rfl) (Nat.le_of_ble_eq_true rfl) ?_
                rw [show 45 + a + 8 = 53 + a by omega, show 45 + b + 8 = 53 + b by omega]
                refine r_aload_n (pc := 121) dX5_copy_121 rfl ?_
                refine r_iload (pc := 122) dX5_copy_122 rfl ?_
                refine iv_X5_76 (c_X5_nothingFound _ _ _ _) (pc := 124) dX5_copy_124 rfl ⟨Nat.le_of_ble_eq_true rfl, Nat.le_of_ble_eq_true rfl⟩ (Nat.le_of_ble_eq_true rfl) hcs (kI ?_)
                exact r_iret (pc := 127) dX5_copy_127 rfl (by subst hPP; exact (Or.inr ⟨a, b, ha, hb, rfl, rfl, Or.inr ⟨hmis, Or.inr ⟨h65, Or.inr ⟨h82s, h94s, p, q, m, by omega, by omega, rfl, rfl, rfl, rfl, rfl⟩⟩⟩⟩))
              · have hh : ¬ ((0 ≤ i ∧ 0 ≤ w ∧ i ≤ M (45 + a) 2 - w) ∧ (0 ≤ j ∧ 0 ≤ w ∧ j ≤ M (45 + b) 2 - w)) := fun z => h94 z.2
                refine r_aload_n (pc := 97) dX5_copy_97 rfl ?_
                refine r_iconst (v := nI 2) (pc := 98) dX5_copy_98 (by decide) ?_
                refine iv_X5_68 (c_X5_found _ _ _ _) (pc := 99) dX5_copy_99 rfl ⟨Nat.le_of_ble_eq_true rfl, Nat.le_of_ble_eq_true rfl⟩ (Nat.le_of_ble_eq_true rfl) hcs (kI ?_)
                exact r_iret (pc := 102) dX5_copy_102 rfl (by subst hPP; exact (Or.inr ⟨a, b, ha, hb, rfl, rfl, Or.inr ⟨hmis, Or.inr ⟨h65, Or.inl ⟨hh, rfl, rfl⟩⟩⟩⟩))
          · refine r_aload_n (pc := 68) dX5_copy_68 rfl ?_
            refine r_iconst (v := nI 5) (pc := 69) dX5_copy_69 (by decide) ?_
            refine iv_X5_68 (c_X5_found _ _ _ _) (pc := 70) dX5_copy_70 rfl ⟨Nat.le_of_ble_eq_true rfl, Nat.le_of_ble_eq_true rfl⟩ (Nat.le_of_ble_eq_true rfl) hcs (kI ?_)
            exact r_iret (pc := 73) dX5_copy_73 rfl (by subst hPP; exact (Or.inr ⟨a, b, ha, hb, rfl, rfl, Or.inr ⟨hmis, Or.inl ⟨h65, rfl, rfl⟩⟩⟩))
        · have hmis : M (45 + a) 1 = -1 ∨ M (45 + b) 1 = -1 := Or.inr h46
          refine r_aload_n (pc := 49) dX5_copy_49 rfl ?_
          refine r_iconst (v := nI 1) (pc := 50) dX5_copy_50 (by decide) ?_
          refine iv_X5_68 (c_X5_found _ _ _ _) (pc := 51) dX5_copy_51 rfl ⟨Nat.le_of_ble_eq_true rfl, Nat.le_of_ble_eq_true rfl⟩ (Nat.le_of_ble_eq_true rfl) hcs (kI ?_)
          exact r_iret (pc := 54) dX5_copy_54 rfl (by subst hPP; exact (Or.inr ⟨a, b, ha, hb, rfl, rfl, Or.inl ⟨hmis, rfl, rfl⟩⟩))
    · have g11 : ¬ rgG 0 7 y := fun z => h11 (rg_mpr z (by omega))
      refine r_ldc (pc := 14) dX5_copy_14 lk_X5_67 ?_
      exact r_iret (pc := 16) dX5_copy_16 rfl (by subst hPP; exact (Or.inl ⟨by first | exact fun z => g4 z.1 | exact fun z => g11 z.2, rfl, rfl⟩))
set_option maxHeartbeats 4000000 in
set_option maxRecDepth 100000 in
theorem c_X5_rowsThere (l : Launch) (G : Gx) (M : Mem) (hW : rwR M) : Con l G yX5_rowsThere cX5_rowsThere 3 (some .int) 1 20 [.ref (gA G 14)] M (rI (rcN (M 2) 8) M) := by
  refine Con.ofV [some (.ref (gA G 14)), none, none] RX5 (by decide) rfl (Nat.le_of_ble_eq_true rfl) rfl ?_
  intro κ hl hG hk0 hn0
  subst hl hG
  have hcs : κ.k ≤ 0 ∧ κ.n ≤ 0 := ⟨Nat.le_of_eq hk0, Nat.le_of_eq hn0⟩
  refine r_iconst (v := nI 0) (pc := 0) dX5_rowsThere_0 (by decide) ?_
  refine r_st_n [_, _, _] (pc := 1) dX5_rowsThere_1 (by decide) rfl rfl ?_
  refine r_iconst (v := nI 0) (pc := 2) dX5_rowsThere_2 (by decide) ?_
  refine r_st_n [_, _, _] (pc := 3) dX5_rowsThere_3 (by decide) rfl rfl ?_
  refine V.bk (loopV (fun (σ : Nat) => V κ cX5_rowsThere RX5 3 (some .int) (rmx 1 20) (QM κ (rI (rcN (M 2) 8) M)) M 4 [some (.ref (gA κ.G 14)), some (.int (rcN (M 2) σ)), some (.int (nI σ))] []) (fun (σ : Nat) => σ ≤ 8) (fun (σ : Nat) => 8 - σ) ?_ 0 (Nat.zero_le _)) rfl (by (repeat (first | exact wk_0 | refine wk_n ?_ | refine wk_s rfl ?_)); done)
  rintro j hj ih
  show V κ cX5_rowsThere RX5 3 (some .int) (rmx 1 20) (QM κ (rI (rcN (M 2) 8) M)) M 4 [some (.ref (gA κ.G 14)), some (.int (rcN (M 2) j)), some (.int (nI j))] []
  refine r_iload_n (pc := 4) dX5_rowsThere_4 rfl ?_
  refine r_bipush (v := nI 8) (pc := 5) dX5_rowsThere_5 (by decide) ?_
  refine r_icmp_ge (tgt := 31) (pc := 7) dX5_rowsThere_7 (by decide) (fun h7 => ?_) (fun h7 => ?_)
  · have h7 : 8 ≤ j := (nI_leI (by omega) (by omega)).mp h7
    obtain rfl : 8 = j := by omega
    refine r_iload_n (pc := 31) dX5_rowsThere_31 rfl ?_
    exact r_iret (pc := 32) dX5_rowsThere_32 rfl ⟨rfl, rfl⟩
  · have h7 : j < 8 := Nat.not_le.mp (fun z => h7 ((nI_leI (by omega) (by omega)).mpr z))
    refine r_aload_n (pc := 10) dX5_rowsThere_10 rfl ?_
    refine gf_X5_11 (pc := 11) dX5_rowsThere_11 rfl ?_
    refine r_iload_n (pc := 14) dX5_rowsThere_14 rfl ?_
    refine r_aaR (pc := 15) dX5_rowsThere_15 (by omega) ?_
    refine iv_X5_87 (c_X3_isMissing _ _ _ j (by omega)) (pc := 16) dX5_rowsThere_16 (clsO_row (by omega) (by omega)) ⟨Nat.le_of_ble_eq_true rfl, Nat.le_of_ble_eq_true rfl⟩ (Nat.le_of_ble_eq_true rfl) hcs (kI ?_)
    refine r_ifne_b (tgt := 25) (pc := 19) dX5_rowsThere_19 (by decide) (fun h19 => ?_) (fun h19 => ?_)
    · have e9 : rcN (M 2) (j + 1) = rcN (M 2) j := by rw [rcN, if_pos (by rcases hW j (by omega) with z | ⟨s, l, -, hl, -, -, -, z, -⟩; exact z.1; rw [z] at h19; exact absurd h19 (neg1 hl)), add0]
      first | refine r_inc [_, _, _] (pc := 25) dX5_rowsThere_25 rfl (nI_inc _) (by decide) rfl rfl ?_ | refine r_inc [_, _, _] (pc := 25) dX5_rowsThere_25 rfl rfl (by decide) rfl rfl ?_
      refine r_goto (tgt := 4) (pc := 28) dX5_rowsThere_28 (by decide) ?_
      refine V.bk (ih (j + 1) (by omega) (by omega)) rfl ?_
      rw [e9]
      repeat (first | exact wk_0 | refine wk_n ?_ | refine wk_s rfl ?_)
    · have e9 : rcN (M 2) (j + 1) = rcN (M 2) j + nI 1 := by rw [rcN, if_neg (by obtain ⟨s, l, hs, -, z, -⟩ := (hW j (by omega)).resolve_left (fun z => h19 z.2); rw [z]; exact nI_pos (by omega))]
      refine r_inc [_, _, _] (pc := 22) dX5_rowsThere_22 rfl (v := rcN (M 2) j + nI 1) rfl (by decide) rfl rfl ?_
      first | refine r_inc [_, _, _] (pc := 25) dX5_rowsThere_25 rfl (nI_inc _) (by decide) rfl rfl ?_ | refine r_inc [_, _, _] (pc := 25) dX5_rowsThere_25 rfl rfl (by decide) rfl rfl ?_
      refine r_goto (tgt := 4) (pc := 28) dX5_rowsThere_28 (by decide) ?_
      refine V.bk (ih (j + 1) (by omega) (by omega)) rfl ?_
      rw [e9]
      repeat (first | exact wk_0 | refine wk_n ?_ | refine wk_s rfl ?_)
set_option maxHeartbeats 4000000 in
set_option maxRecDepth 100000 in
theorem c_X5_count (l : Launch) (G : Gx) (M : Mem) (x : Int32) (S : Nat → Int32) (n : Nat) (hm : ms 18 n S M) (hR : Rg n S) (hW : rwR M) : Con l G yX5_count cX5_count 2 (some .int) 2 42 [.ref (gA G 14), .int x] M (fun v M' => (¬ rgG 0 7 x ∧ rI cBad M v M') ∨ (∃ q, q ≤ 7 ∧ x = nI q ∧ rI (if q = 0 then rcN (M 2) 8 else if q = 1 then nI n else if q = 2 then S 3 else if q = 3 then S 4 else if q = 4 then sumN S 11 n else if q = 5 then sumN S 35 n else if q = 6 then M 40 2 else M 16 1) M v M')) := by
  refine Con.ofV [some (.ref (gA G 14)), some (.int x)] RX5 (by decide) rfl (Nat.le_of_ble_eq_true rfl) rfl ?_
  intro κ hl hG hk0 hn0
  subst hl hG
  have hcs : κ.k ≤ 0 ∧ κ.n ≤ 0 := ⟨Nat.le_of_eq hk0, Nat.le_of_eq hn0⟩
  generalize hPP : (fun v M' => (¬ rgG 0 7 x ∧ rI cBad M v M') ∨ (∃ q, q ≤ 7 ∧ x = nI q ∧ rI (if q = 0 then rcN (M 2) 8 else if q = 1 then nI n else if q = 2 then S 3 else if q = 3 then S 4 else if q = 4 then sumN S 11 n else if q = 5 then sumN S 35 n else if q = 6 then M 40 2 else M 16 1) M v M')) = PP
  refine r_iload_n (pc := 0) dX5_count_0 rfl ?_
  refine r_tsw (lo := 0) (hi := 7) (tgt := 109) (pc := 1) dX5_count_1 (by decide) (fun h1 => ?_) (fun q1 a1 b1 h1 => ?_)
  · have g1 : ¬ rgG 0 7 x := by rintro ⟨q, z1, z2, z3⟩; exact h1 q z1 z2 (by omega) z3
    refine r_ldc (pc := 109) dX5_count_109 lk_X5_67 ?_
    exact r_iret (pc := 111) dX5_count_111 rfl (by subst hPP; exact (Or.inl ⟨g1, rfl, rfl⟩))
  · rcases (show q1 = 0 ∨ q1 = 1 ∨ q1 = 2 ∨ q1 = 3 ∨ q1 = 4 ∨ q1 = 5 ∨ q1 = 6 ∨ q1 = 7 by omega) with rfl | rfl | rfl | rfl | rfl | rfl | rfl | rfl
    · refine r_tableIn (off := 47) (tgt := 48) (pc := 1) dX5_count_1 (by decide) (by decide) rfl (by decide) ?_
      refine r_aload_n (pc := 48) dX5_count_48 rfl ?_
      refine iv_X5_295 (c_X5_rowsThere _ _ _ hW) (pc := 49) dX5_count_49 rfl ⟨Nat.le_of_ble_eq_true rfl, Nat.le_of_ble_eq_true rfl⟩ (Nat.le_of_ble_eq_true rfl) hcs (kI ?_)
      exact r_iret (pc := 52) dX5_count_52 rfl (by subst hPP; exact (Or.inr ⟨0, by omega, h1, rfl, rfl⟩))
    · refine r_tableIn (off := 52) (tgt := 53) (pc := 1) dX5_count_1 (by decide) (by decide) rfl (by decide) ?_
      refine r_aload_n (pc := 53) dX5_count_53 rfl ?_
      refine gf_X5_25 (pc := 54) dX5_count_54 rfl ?_
      refine gf_X5_140 (pc := 57) dX5_count_57 rfl ?_
      refine r_is (nI n) (hm.1) ?_
      exact r_iret (pc := 60) dX5_count_60 rfl (by subst hPP; exact (Or.inr ⟨1, by omega, h1, rfl, rfl⟩))
    · refine r_tableIn (off := 60) (tgt := 61) (pc := 1) dX5_count_1 (by decide) (by decide) rfl (by decide) ?_
      refine r_aload_n (pc := 61) dX5_count_61 rfl ?_
      refine gf_X5_25 (pc := 62) dX5_count_62 rfl ?_
      refine gf_X5_152 (pc := 65) dX5_count_65 rfl ?_
      refine r_is (S 3) (hm.2.2.2.1) ?_
      exact r_iret (pc := 68) dX5_count_68 rfl (by subst hPP; exact (Or.inr ⟨2, by omega, h1, rfl, rfl⟩))
    · refine r_tableIn (off := 68) (tgt := 69) (pc := 1) dX5_count_1 (by decide) (by decide) rfl (by decide) ?_
      refine r_aload_n (pc := 69) dX5_count_69 rfl ?_
      refine gf_X5_25 (pc := 70) dX5_count_70 rfl ?_
      refine gf_X5_181 (pc := 73) dX5_count_73 rfl ?_
      refine r_is (S 4) (hm.2.2.2.2.1) ?_
      exact r_iret (pc := 76) dX5_count_76 rfl (by subst hPP; exact (Or.inr ⟨3, by omega, h1, rfl, rfl⟩))
    · refine r_tableIn (off := 76) (tgt := 77) (pc := 1) dX5_count_1 (by decide) (by decide) rfl (by decide) ?_
      refine r_aload_n (pc := 77) dX5_count_77 rfl ?_
      refine gf_X5_25 (pc := 78) dX5_count_78 rfl ?_
      refine iv_X5_226 (c_X2_allLegs_18 _ _ _ S n hm hR) (pc := 81) dX5_count_81 rfl ⟨Nat.le_of_ble_eq_true rfl, Nat.le_of_ble_eq_true rfl⟩ (Nat.le_of_ble_eq_true rfl) hcs (kI ?_)
      exact r_iret (pc := 84) dX5_count_84 rfl (by subst hPP; exact (Or.inr ⟨4, by omega, h1, rfl, rfl⟩))
    · refine r_tableIn (off := 84) (tgt := 85) (pc := 1) dX5_count_1 (by decide) (by decide) rfl (by decide) ?_
      refine r_aload_n (pc := 85) dX5_count_85 rfl ?_
      refine gf_X5_25 (pc := 86) dX5_count_86 rfl ?_
      refine iv_X5_298 (c_X2_allCaught_18 _ _ _ S n hm hR) (pc := 89) dX5_count_89 rfl ⟨Nat.le_of_ble_eq_true rfl, Nat.le_of_ble_eq_true rfl⟩ (Nat.le_of_ble_eq_true rfl) hcs (kI ?_)
      exact r_iret (pc := 92) dX5_count_92 rfl (by subst hPP; exact (Or.inr ⟨5, by omega, h1, rfl, rfl⟩))
    · refine r_tableIn (off := 92) (tgt := 93) (pc := 1) dX5_count_1 (by decide) (by decide) rfl (by decide) ?_
      refine r_aload_n (pc := 93) dX5_count_93 rfl ?_
      refine gf_X5_42 (pc := 94) dX5_count_94 rfl ?_
      refine gf_X5_145 (pc := 97) dX5_count_97 rfl ?_
      exact r_iret (pc := 100) dX5_count_100 rfl (by subst hPP; exact (Or.inr ⟨6, by omega, h1, rfl, rfl⟩))
    · refine r_tableIn (off := 100) (tgt := 101) (pc := 1) dX5_count_1 (by decide) (by decide) rfl (by decide) ?_
      refine r_aload_n (pc := 101) dX5_count_101 rfl ?_
      refine gf_X5_18 (pc := 102) dX5_count_102 rfl ?_
      refine gf_X5_115 (pc := 105) dX5_count_105 rfl ?_
      exact r_iret (pc := 108) dX5_count_108 rfl (by subst hPP; exact (Or.inr ⟨7, by omega, h1, rfl, rfl⟩))
set_option maxHeartbeats 4000000 in
set_option maxRecDepth 100000 in
theorem c_X5_status (l : Launch) (G : Gx) (M : Mem)  : Con l G yX5_status cX5_status 1 (some .int) 0 0 [.ref (gA G 14)] M (rI (M 14 11) M) := by
  refine Con.ofV [some (.ref (gA G 14))] RX5 (by decide) rfl (Nat.le_of_ble_eq_true rfl) rfl ?_
  intro κ hl hG hk0 hn0
  subst hl hG
  have hcs : κ.k ≤ 0 ∧ κ.n ≤ 0 := ⟨Nat.le_of_eq hk0, Nat.le_of_eq hn0⟩
  refine r_aload_n (pc := 0) dX5_status_0 rfl ?_
  refine gf_X5_301 (pc := 1) dX5_status_1 rfl ?_
  exact r_iret (pc := 4) dX5_status_4 rfl ⟨rfl, rfl⟩
set_option maxHeartbeats 4000000 in
set_option maxRecDepth 100000 in
theorem c_X5_fault (l : Launch) (G : Gx) (M : Mem)  : Con l G yX5_fault cX5_fault 1 (some .int) 0 0 [.ref (gA G 14)] M (rI (M 14 10) M) := by
  refine Con.ofV [some (.ref (gA G 14))] RX5 (by decide) rfl (Nat.le_of_ble_eq_true rfl) rfl ?_
  intro κ hl hG hk0 hn0
  subst hl hG
  have hcs : κ.k ≤ 0 ∧ κ.n ≤ 0 := ⟨Nat.le_of_eq hk0, Nat.le_of_eq hn0⟩
  refine r_aload_n (pc := 0) dX5_fault_0 rfl ?_
  refine gf_X5_123 (pc := 1) dX5_fault_1 rfl ?_
  exact r_iret (pc := 4) dX5_fault_4 rfl ⟨rfl, rfl⟩
set_option maxHeartbeats 4000000 in
set_option maxRecDepth 100000 in
theorem c_X5_trace (l : Launch) (G : Gx) (M : Mem) (x : Int32) (t : Nat) (ht16 : t ≤ 16) (ht : M 43 1 = nI t) : Con l G yX5_trace cX5_trace 2 (some .int) 0 0 [.ref (gA G 14), .int x] M (fun v M' => (¬ itG t 1 x ∧ rI cNone M v M') ∨ (∃ q, q < t ∧ x = nI q ∧ rI (M 44 q) M v M')) := by
  refine Con.ofV [some (.ref (gA G 14)), some (.int x)] RX5 (by decide) rfl (Nat.le_of_ble_eq_true rfl) rfl ?_
  intro κ hl hG hk0 hn0
  subst hl hG
  have hcs : κ.k ≤ 0 ∧ κ.n ≤ 0 := ⟨Nat.le_of_eq hk0, Nat.le_of_eq hn0⟩
  generalize hPP : (fun v M' => (¬ itG t 1 x ∧ rI cNone M v M') ∨ (∃ q, q < t ∧ x = nI q ∧ rI (M 44 q) M v M')) = PP
  refine r_iload_n (pc := 0) dX5_trace_0 rfl ?_
  refine r_if_lt (tgt := 27) (pc := 1) dX5_trace_1 (by decide) (fun h1 => ?_) (fun h1 => ?_)
  · have hg : ¬ itG t 1 x := by rintro ⟨q, rfl, hq⟩; exact nI_pos (by omega) h1
    refine r_ldc (pc := 27) dX5_trace_27 lk_X5_219 ?_
    exact r_iret (pc := 29) dX5_trace_29 rfl (by subst hPP; exact (by first | exact Or.inr ⟨q, hq, rfl, rfl, rfl⟩ | exact Or.inl ⟨hg, rfl, rfl⟩))
  · refine r_iload_n (pc := 4) dX5_trace_4 rfl ?_
    refine r_aload_n (pc := 5) dX5_trace_5 rfl ?_
    refine gf_X5_54 (pc := 6) dX5_trace_6 rfl ?_
    refine gf_X5_284 (pc := 9) dX5_trace_9 rfl ?_
    refine r_is (nI t) (ht) ?_
    refine r_icmp_ge (tgt := 27) (pc := 12) dX5_trace_12 (by decide) (fun h12 => ?_) (fun h12 => ?_)
    · have hg : ¬ itG t 1 x := by rintro ⟨q, rfl, hq⟩; have := (nI_leI (by omega) (by omega)).mp h12; omega
      refine r_ldc (pc := 27) dX5_trace_27 lk_X5_219 ?_
      exact r_iret (pc := 29) dX5_trace_29 rfl (by subst hPP; exact (by first | exact Or.inr ⟨q, hq, rfl, rfl, rfl⟩ | exact Or.inl ⟨hg, rfl, rfl⟩))
    · obtain ⟨q, hq, rfl⟩ : ∃ q, q < t ∧ x = nI q := by
        obtain ⟨s, hs, rfl⟩ := le_of_le_nI (fa_of_nlt h1) (fa_of_lt (fa_of_nle h12)).1 (by omega)
        exact ⟨s, Nat.lt_of_le_of_ne hs (fun z => h12 (by rw [z]; exact Int32.le_refl _)), rfl⟩
      refine r_aload_n (pc := 15) dX5_trace_15 rfl ?_
      refine gf_X5_54 (pc := 16) dX5_trace_16 rfl ?_
      refine gf_X5_292 (pc := 19) dX5_trace_19 rfl ?_
      refine r_iload_n (pc := 22) dX5_trace_22 rfl ?_
      refine r_iald (pc := 23) dX5_trace_23 rfl (show _ < 16 by omega) ?_
      refine r_goto (tgt := 29) (pc := 24) dX5_trace_24 (by decide) ?_
      exact r_iret (pc := 29) dX5_trace_29 rfl (by subst hPP; exact (by first | exact Or.inr ⟨q, hq, rfl, rfl, rfl⟩ | exact Or.inl ⟨hg, rfl, rfl⟩))
