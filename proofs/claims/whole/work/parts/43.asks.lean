def cbM (M : Mem) (v : Int32) : Mem := if nI 16 ≤ M 43 1 then M else mset (mset M 44 (M 43 1).toNatClampNeg v) 43 1 (M 43 1 + nI 1)
def ctOK (M : Mem) : Prop := ∃ t, t ≤ 16 ∧ M 43 1 = nI t
theorem cbM_ok {M : Mem} (h : ctOK M) (v : Int32) : ctOK (cbM M v) := by
  obtain ⟨t, h1, h2⟩ := h
  unfold cbM
  split
  · exact ⟨t, h1, h2⟩
  · rename_i hc
    rw [h2] at hc
    have : t < 16 := Nat.not_le.mp (fun z => hc (nI_le z (by omega)))
    refine ⟨t + 1, by omega, ?_⟩
    rw [mset_eq, pk_us, h2, nI_add]
theorem cbM_q (M : Mem) (v : Int32) {q : Nat} (h1 : q ≠ 43) (h2 : q ≠ 44) : cbM M v q = M q := by
  unfold cbM
  split
  · rfl
  · rw [mset_ne _ _ _ h1, mset_ne _ _ _ h2]
def cbL (M : Mem) : List Nat → Mem
  | [] => M
  | c :: t => cbL (cbM M (nI c)) t
theorem cbL_q : ∀ (cs : List Nat) (M : Mem) {q : Nat}, q ≠ 43 → q ≠ 44 → cbL M cs q = M q
  | [], _, _, _, _ => rfl
  | c :: t, M, _, h1, h2 => (cbL_q t _ h1 h2).trans (cbM_q M _ h1 h2)
set_option maxHeartbeats 4000000 in
set_option maxRecDepth 100000 in
theorem c_X0_begin (l : Launch) (G : Gx) (M : Mem) (v : Int32) (ht : ctOK M) : Con l G yX0_begin cX0_begin 2 none 0 0 [.ref (gA G 43), .int v] M (rV (cbM M v)) := by
  refine Con.ofV [some (.ref (gA G 43)), some (.int v)] RX0 (by decide) rfl (Nat.le_of_ble_eq_true rfl) rfl ?_
  intro κ hl hG hk0 hn0
  subst hl hG
  have hcs : κ.k ≤ 0 ∧ κ.n ≤ 0 := ⟨Nat.le_of_eq hk0, Nat.le_of_eq hn0⟩
  obtain ⟨t, ht1, ht2⟩ := ht
  refine r_aload_n (pc := 0) dX0_begin_0 rfl ?_
  refine gf_X0_45 (pc := 1) dX0_begin_1 rfl ?_
  refine r_bipush (v := nI 16) (pc := 4) dX0_begin_4 (by decide) ?_
  refine r_icmp_ge (tgt := 29) (pc := 6) dX0_begin_6 (by decide) (fun h6 => ?_) (fun h6 => ?_)
  · have e9 : cbM M v = M := if_pos h6
    exact r_vret (pc := 29) dX0_begin_29 rfl ⟨rfl, by rw [e9]; try rfl⟩
  · have h6n : t < 16 := Nat.not_le.mp (fun z => h6 (by rw [ht2]; exact nI_le z (by omega)))
    have e9 : cbM M v = mset (mset M 44 t v) 43 1 (M 43 1 + nI 1) := by rw [cbM, if_neg h6, ht2, nI_clamp (by omega)]
    refine r_aload_n (pc := 9) dX0_begin_9 rfl ?_
    refine gf_X0_9 (pc := 10) dX0_begin_10 rfl ?_
    refine r_aload_n (pc := 13) dX0_begin_13 rfl ?_
    refine gf_X0_45 (pc := 14) dX0_begin_14 rfl ?_
    refine r_is (nI t) ht2 ?_
    refine r_iload_n (pc := 17) dX0_begin_17 rfl ?_
    refine r_iast (pc := 18) dX0_begin_18 rfl (show _ < 16 by omega) ?_
    refine r_aload_n (pc := 19) dX0_begin_19 rfl ?_
    refine r_dup (pc := 20) dX0_begin_20 rfl ?_
    refine gf_X0_45 (pc := 21) dX0_begin_21 rfl ?_
    refine r_iconst (v := nI 1) (pc := 24) dX0_begin_24 (by decide) ?_
    first | with_reducible refine r_iaddN (pc := 25) dX0_begin_25 ?_ | refine r_iadd (pc := 25) dX0_begin_25 ?_
    refine pf_X0_45 (pc := 26) dX0_begin_26 rfl ?_
    exact r_vret (pc := 29) dX0_begin_29 rfl ⟨rfl, by rw [e9]; try rfl⟩
set_option maxHeartbeats 4000000 in
set_option maxRecDepth 100000 in
theorem c_X0_lentSize (l : Launch) (G : Gx) (M : Mem) (w : Nat) (hw : w < 6) (ht : ctOK M) : Con l G yX0_lentSize cX0_lentSize 3 (some .int) 1 21 [.ref (gA G 43), .ref (gA G 18), .int (nI w)] M (rI (M 20 w) (cbL M [10])) := by
  refine Con.ofV [some (.ref (gA G 43)), some (.ref (gA G 18)), some (.int (nI w))] RX0 (by decide) rfl (Nat.le_of_ble_eq_true rfl) rfl ?_
  intro κ hl hG hk0 hn0
  subst hl hG
  have hcs : κ.k ≤ 0 ∧ κ.n ≤ 0 := ⟨Nat.le_of_eq hk0, Nat.le_of_eq hn0⟩
  refine r_aload_n (pc := 0) dX0_lentSize_0 rfl ?_
  refine r_bipush (v := nI 10) (pc := 1) dX0_lentSize_1 (by decide) ?_
  refine iv_X0_24 (c_X0_begin _ _ _ _ ht) (pc := 3) dX0_lentSize_3 rfl ⟨Nat.le_of_ble_eq_true rfl, Nat.le_of_ble_eq_true rfl⟩ (Nat.le_of_ble_eq_true rfl) hcs (kV ?_)
  refine r_aload_n (pc := 6) dX0_lentSize_6 rfl ?_
  refine gf_X0_49 (pc := 7) dX0_lentSize_7 rfl ?_
  refine r_iload_n (pc := 10) dX0_lentSize_10 rfl ?_
  refine r_iald (pc := 11) dX0_lentSize_11 rfl (show _ < 6 by omega) ?_
  refine r_is (M 20 w) (by rw [cbM_q _ _ (by decide) (by decide)]) ?_
  exact r_iret (pc := 12) dX0_lentSize_12 rfl ⟨rfl, rfl⟩
set_option maxHeartbeats 4000000 in
set_option maxRecDepth 100000 in
theorem c_X0_lentMark (l : Launch) (G : Gx) (M : Mem) (w : Nat) (hw : w < 6) (ht : ctOK M) : Con l G yX0_lentMark cX0_lentMark 2 (some .int) 1 21 [.ref (gA G 43), .int (nI w)] M (rI (nI w) (cbL M [20])) := by
  refine Con.ofV [some (.ref (gA G 43)), some (.int (nI w))] RX0 (by decide) rfl (Nat.le_of_ble_eq_true rfl) rfl ?_
  intro κ hl hG hk0 hn0
  subst hl hG
  have hcs : κ.k ≤ 0 ∧ κ.n ≤ 0 := ⟨Nat.le_of_eq hk0, Nat.le_of_eq hn0⟩
  refine r_aload_n (pc := 0) dX0_lentMark_0 rfl ?_
  refine r_bipush (v := nI 20) (pc := 1) dX0_lentMark_1 (by decide) ?_
  refine iv_X0_24 (c_X0_begin _ _ _ _ ht) (pc := 3) dX0_lentMark_3 rfl ⟨Nat.le_of_ble_eq_true rfl, Nat.le_of_ble_eq_true rfl⟩ (Nat.le_of_ble_eq_true rfl) hcs (kV ?_)
  refine r_iload_n (pc := 6) dX0_lentMark_6 rfl ?_
  exact r_iret (pc := 7) dX0_lentMark_7 rfl ⟨rfl, rfl⟩
set_option maxHeartbeats 4000000 in
set_option maxRecDepth 100000 in
theorem c_X0_plainMark (l : Launch) (G : Gx) (M : Mem) (w : Nat) (hw : w < 6) (ht : ctOK M) : Con l G yX0_plainMark cX0_plainMark 3 (some .int) 2 42 [.ref (gA G 43), .ref (gA G 18), .int (nI w)] M (rI (nI w + M 21 w) (cbL M [21, 20])) := by
  refine Con.ofV [some (.ref (gA G 43)), some (.ref (gA G 18)), some (.int (nI w))] RX0 (by decide) rfl (Nat.le_of_ble_eq_true rfl) rfl ?_
  intro κ hl hG hk0 hn0
  subst hl hG
  have hcs : κ.k ≤ 0 ∧ κ.n ≤ 0 := ⟨Nat.le_of_eq hk0, Nat.le_of_eq hn0⟩
  refine r_aload_n (pc := 0) dX0_plainMark_0 rfl ?_
  refine r_bipush (v := nI 21) (pc := 1) dX0_plainMark_1 (by decide) ?_
  refine iv_X0_24 (c_X0_begin _ _ _ _ ht) (pc := 3) dX0_plainMark_3 rfl ⟨Nat.le_of_ble_eq_true rfl, Nat.le_of_ble_eq_true rfl⟩ (Nat.le_of_ble_eq_true rfl) hcs (kV ?_)
  refine r_aload_n (pc := 6) dX0_plainMark_6 rfl ?_
  refine r_iload_n (pc := 7) dX0_plainMark_7 rfl ?_
  refine iv_X0_41 (c_X0_lentMark _ _ _ w hw (cbM_ok ht _)) (pc := 8) dX0_plainMark_8 rfl ⟨Nat.le_of_ble_eq_true rfl, Nat.le_of_ble_eq_true rfl⟩ (Nat.le_of_ble_eq_true rfl) hcs (kI ?_)
  refine r_aload_n (pc := 11) dX0_plainMark_11 rfl ?_
  refine gf_X0_55 (pc := 12) dX0_plainMark_12 rfl ?_
  refine r_iload_n (pc := 15) dX0_plainMark_15 rfl ?_
  refine r_iald (pc := 16) dX0_plainMark_16 rfl (show _ < 6 by omega) ?_
  refine r_is (M 21 w) (by rw [cbL_q _ _ (by decide) (by decide), cbM_q _ _ (by decide) (by decide)]) ?_
  first | with_reducible refine r_iaddN (pc := 17) dX0_plainMark_17 ?_ | refine r_iadd (pc := 17) dX0_plainMark_17 ?_
  exact r_iret (pc := 18) dX0_plainMark_18 rfl ⟨rfl, rfl⟩
set_option maxHeartbeats 4000000 in
set_option maxRecDepth 100000 in
theorem c_X0_oakSize (l : Launch) (G : Gx) (M : Mem) (w : Nat) (hw : w < 6) (ht : ctOK M) : Con l G yX0_oakSize cX0_oakSize 3 (some .int) 2 43 [.ref (gA G 43), .ref (gA G 18), .int (nI w)] M (rI (M 20 w - nI 100) (cbL M [13, 10])) := by
  refine Con.ofV [some (.ref (gA G 43)), some (.ref (gA G 18)), some (.int (nI w))] RX0 (by decide) rfl (Nat.le_of_ble_eq_true rfl) rfl ?_
  intro κ hl hG hk0 hn0
  subst hl hG
  have hcs : κ.k ≤ 0 ∧ κ.n ≤ 0 := ⟨Nat.le_of_eq hk0, Nat.le_of_eq hn0⟩
  refine r_aload_n (pc := 0) dX0_oakSize_0 rfl ?_
  refine r_bipush (v := nI 13) (pc := 1) dX0_oakSize_1 (by decide) ?_
  refine iv_X0_24 (c_X0_begin _ _ _ _ ht) (pc := 3) dX0_oakSize_3 rfl ⟨Nat.le_of_ble_eq_true rfl, Nat.le_of_ble_eq_true rfl⟩ (Nat.le_of_ble_eq_true rfl) hcs (kV ?_)
  refine r_aload_n (pc := 6) dX0_oakSize_6 rfl ?_
  refine r_aload_n (pc := 7) dX0_oakSize_7 rfl ?_
  refine r_iload_n (pc := 8) dX0_oakSize_8 rfl ?_
  refine iv_X0_32 (c_X0_lentSize _ _ _ w hw (cbM_ok ht _)) (pc := 9) dX0_oakSize_9 rfl ⟨Nat.le_of_ble_eq_true rfl, Nat.le_of_ble_eq_true rfl⟩ (Nat.le_of_ble_eq_true rfl) hcs (kI ?_)
  refine r_is (M 20 w) (by rw [cbM_q _ _ (by decide) (by decide)]) ?_
  refine r_bipush (v := nI 100) (pc := 12) dX0_oakSize_12 (by decide) ?_
  first | (with_reducible refine r_isubN (pc := 14) dX0_oakSize_14 ?hle ?_; case hle => omega) | refine r_isub (pc := 14) dX0_oakSize_14 ?_
  exact r_iret (pc := 15) dX0_oakSize_15 rfl ⟨rfl, rfl⟩
set_option maxHeartbeats 4000000 in
set_option maxRecDepth 100000 in
theorem c0_X0_sizeOf (l : Launch) (G : Gx) (M : Mem) (w d k : Nat) (hw : w < 6) (ht : ctOK M) (hs : M 19 w = nI k) (hd : d ≤ 8) (hk : k = 4 ∨ k = 5) : Con l G yX0_sizeOf cX0_sizeOf 4 (some .int) 6 300 [.ref (gA G 43), .ref (gA G 18), .int (nI w), .int (nI d)] M (rI (okV (M 19 w) (M 20 w)) (cbL M (okL (M 19 w)))) := by
  refine Con.ofV [some (.ref (gA G 43)), some (.ref (gA G 18)), some (.int (nI w)), some (.int (nI d))] RX0 (by decide) rfl (Nat.le_of_ble_eq_true rfl) rfl ?_
  intro κ hl hG hk0 hn0
  subst hl hG
  have hcs : κ.k ≤ 0 ∧ κ.n ≤ 0 := ⟨Nat.le_of_eq hk0, Nat.le_of_eq hn0⟩
  refine r_iload_n (pc := 0) dX0_sizeOf_0 rfl ?_
  refine r_bipush (v := nI 8) (pc := 1) dX0_sizeOf_1 (by decide) ?_
  refine r_icmp_le (tgt := 8) (pc := 3) dX0_sizeOf_3 (by decide) (fun h3 => ?_) (fun h3 => ?_)
  · refine r_aload_n (pc := 8) dX0_sizeOf_8 rfl ?_
    refine gf_X0_15 (pc := 9) dX0_sizeOf_9 rfl ?_
    refine r_iload_n (pc := 12) dX0_sizeOf_12 rfl ?_
    refine r_iald (pc := 13) dX0_sizeOf_13 rfl (show _ < 6 by omega) ?_
    refine r_is (nI k) hs ?_
    refine r_tsw (lo := 1) (hi := 5) (tgt := 93) (pc := 14) dX0_sizeOf_14 (by decide) (fun h14 => ?_) (fun q14 a14 b14 h14 => ?_)
    · exact (h14 k (by omega) (by omega) (by omega) rfl).elim
    · rcases (show q14 = 1 ∨ q14 = 2 ∨ q14 = 3 ∨ q14 = 4 ∨ q14 = 5 by omega) with rfl | rfl | rfl | rfl | rfl
      · refine r_tableIn (off := 34) (tgt := 48) (pc := 14) dX0_sizeOf_14 (by decide) (by decide) rfl (by decide) ?_
        exact absurd ((nI_eq (by omega) (by omega)).mp h14) (by omega)
      · refine r_tableIn (off := 42) (tgt := 56) (pc := 14) dX0_sizeOf_14 (by decide) (by decide) rfl (by decide) ?_
        exact absurd ((nI_eq (by omega) (by omega)).mp h14) (by omega)
      · refine r_tableIn (off := 34) (tgt := 48) (pc := 14) dX0_sizeOf_14 (by decide) (by decide) rfl (by decide) ?_
        exact absurd ((nI_eq (by omega) (by omega)).mp h14) (by omega)
      · refine r_tableIn (off := 57) (tgt := 71) (pc := 14) dX0_sizeOf_14 (by decide) (by decide) rfl (by decide) ?_
        have e14 : k = 4 := (nI_eq (by omega) (by omega)).mp h14
        subst e14
        refine r_aload_n (pc := 71) dX0_sizeOf_71 rfl ?_
        refine r_aload_n (pc := 72) dX0_sizeOf_72 rfl ?_
        refine r_iload_n (pc := 73) dX0_sizeOf_73 rfl ?_
        refine iv_X0_28 (c_X0_oakSize _ _ _ w hw ht) (pc := 74) dX0_sizeOf_74 rfl ⟨Nat.le_of_ble_eq_true rfl, Nat.le_of_ble_eq_true rfl⟩ (Nat.le_of_ble_eq_true rfl) hcs (kI ?_)
        exact r_iret (pc := 77) dX0_sizeOf_77 rfl ⟨by rw [okV, if_neg (by rw [hs]; decide)], by rw [okL, if_neg (by rw [hs]; decide)]⟩
      · refine r_tableIn (off := 64) (tgt := 78) (pc := 14) dX0_sizeOf_14 (by decide) (by decide) rfl (by decide) ?_
        have e14 : k = 5 := (nI_eq (by omega) (by omega)).mp h14
        subst e14
        refine r_aload_n (pc := 78) dX0_sizeOf_78 rfl ?_
        refine r_bipush (v := nI 14) (pc := 79) dX0_sizeOf_79 (by decide) ?_
        refine iv_X0_24 (c_X0_begin _ _ _ _ ht) (pc := 81) dX0_sizeOf_81 rfl ⟨Nat.le_of_ble_eq_true rfl, Nat.le_of_ble_eq_true rfl⟩ (Nat.le_of_ble_eq_true rfl) hcs (kV ?_)
        refine r_iconst (v := nI 2) (pc := 84) dX0_sizeOf_84 (by decide) ?_
        refine r_aload_n (pc := 85) dX0_sizeOf_85 rfl ?_
        refine r_aload_n (pc := 86) dX0_sizeOf_86 rfl ?_
        refine r_iload_n (pc := 87) dX0_sizeOf_87 rfl ?_
        refine iv_X0_28 (c_X0_oakSize _ _ _ w hw (cbM_ok ht _)) (pc := 88) dX0_sizeOf_88 rfl ⟨Nat.le_of_ble_eq_true rfl, Nat.le_of_ble_eq_true rfl⟩ (Nat.le_of_ble_eq_true rfl) hcs (kI ?_)
        refine r_is (M 20 w - nI 100) (by rw [cbM_q _ _ (by decide) (by decide)]) ?_
        first | with_reducible refine r_imulN (pc := 91) dX0_sizeOf_91 ?_ | refine r_imul (pc := 91) dX0_sizeOf_91 ?_
        exact r_iret (pc := 92) dX0_sizeOf_92 rfl ⟨by rw [okV, if_pos hs], by rw [okL, if_pos hs]; rfl⟩
  · exact absurd (nI_le (by omega) (by omega)) h3
set_option maxHeartbeats 4000000 in
set_option maxRecDepth 100000 in
theorem c_X0_oakMark (l : Launch) (G : Gx) (M : Mem) (w d k : Nat) (hw : w < 6) (ht : ctOK M) (hs : M 19 w = nI k) (hd : d ≤ 7) (hk : k = 4 ∨ k = 5) : Con l G yX0_oakMark cX0_oakMark 5 (some .int) 7 323 [.ref (gA G 43), .ref (gA G 18), .int (nI w), .int (nI d)] M (rI (nI w - okV (M 19 w) (M 20 w)) (cbL M ([23, 20] ++ okL (M 19 w)))) := by
  refine Con.ofV [some (.ref (gA G 43)), some (.ref (gA G 18)), some (.int (nI w)), some (.int (nI d)), none] RX0 (by decide) rfl (Nat.le_of_ble_eq_true rfl) rfl ?_
  intro κ hl hG hk0 hn0
  subst hl hG
  have hcs : κ.k ≤ 0 ∧ κ.n ≤ 0 := ⟨Nat.le_of_eq hk0, Nat.le_of_eq hn0⟩
  refine r_aload_n (pc := 0) dX0_oakMark_0 rfl ?_
  refine r_bipush (v := nI 23) (pc := 1) dX0_oakMark_1 (by decide) ?_
  refine iv_X0_24 (c_X0_begin _ _ _ _ ht) (pc := 3) dX0_oakMark_3 rfl ⟨Nat.le_of_ble_eq_true rfl, Nat.le_of_ble_eq_true rfl⟩ (Nat.le_of_ble_eq_true rfl) hcs (kV ?_)
  refine r_aload_n (pc := 6) dX0_oakMark_6 rfl ?_
  refine r_iload_n (pc := 7) dX0_oakMark_7 rfl ?_
  refine iv_X0_41 (c_X0_lentMark _ _ _ w hw (cbM_ok ht _)) (pc := 8) dX0_oakMark_8 rfl ⟨Nat.le_of_ble_eq_true rfl, Nat.le_of_ble_eq_true rfl⟩ (Nat.le_of_ble_eq_true rfl) hcs (kI ?_)
  refine r_st [_, _, _, _, _] (pc := 11) dX0_oakMark_11 (by decide) rfl rfl ?_
  refine r_iload (pc := 13) dX0_oakMark_13 rfl ?_
  refine r_aload_n (pc := 15) dX0_oakMark_15 rfl ?_
  refine r_aload_n (pc := 16) dX0_oakMark_16 rfl ?_
  refine r_iload_n (pc := 17) dX0_oakMark_17 rfl ?_
  refine r_iload_n (pc := 18) dX0_oakMark_18 rfl ?_
  refine r_iconst (v := nI 1) (pc := 19) dX0_oakMark_19 (by decide) ?_
  first | with_reducible refine r_iaddN (pc := 20) dX0_oakMark_20 ?_ | refine r_iadd (pc := 20) dX0_oakMark_20 ?_
  refine iv_X0_58 (c0_X0_sizeOf _ _ _ w (d + 1) k hw (cbM_ok (cbM_ok ht _) _) (by rw [cbL_q _ _ (by decide) (by decide), cbM_q _ _ (by decide) (by decide)]; exact hs) (by omega) hk) (pc := 21) dX0_oakMark_21 rfl ⟨Nat.le_of_ble_eq_true rfl, Nat.le_of_ble_eq_true rfl⟩ (Nat.le_of_ble_eq_true rfl) hcs (kI ?_)
  refine r_is (okV (M 19 w) (M 20 w)) (by rw [cbL_q _ _ (by decide) (by decide), cbM_q _ _ (by decide) (by decide), cbL_q _ _ (by decide) (by decide), cbM_q _ _ (by decide) (by decide)]) ?_
  first | (with_reducible refine r_isubN (pc := 24) dX0_oakMark_24 ?hle ?_; case hle => omega) | refine r_isub (pc := 24) dX0_oakMark_24 ?_
  exact r_iret (pc := 25) dX0_oakMark_25 rfl ⟨rfl, by rw [cbL_q [20] _ (q := 19) (by decide) (by decide), cbM_q _ _ (by decide) (by decide)]; rfl⟩
set_option maxHeartbeats 4000000 in
set_option maxRecDepth 100000 in
theorem c_X0_markOf (l : Launch) (G : Gx) (M : Mem) (w d k : Nat) (hw : w < 6) (ht : ctOK M) (hs : M 19 w = nI k) (hd : d ≤ 7) (hk1 : 1 ≤ k) (hk5 : k ≤ 5) : Con l G yX0_markOf cX0_markOf 4 (some .int) 8 347 [.ref (gA G 43), .ref (gA G 18), .int (nI w), .int (nI d)] M (rI (mkV (M 19 w) (M 20 w) (M 21 w) w) (cbL M (mkL (M 19 w)))) := by
  refine Con.ofV [some (.ref (gA G 43)), some (.ref (gA G 18)), some (.int (nI w)), some (.int (nI d))] RX0 (by decide) rfl (Nat.le_of_ble_eq_true rfl) rfl ?_
  intro κ hl hG hk0 hn0
  subst hl hG
  have hcs : κ.k ≤ 0 ∧ κ.n ≤ 0 := ⟨Nat.le_of_eq hk0, Nat.le_of_eq hn0⟩
  refine r_iload_n (pc := 0) dX0_markOf_0 rfl ?_
  refine r_bipush (v := nI 8) (pc := 1) dX0_markOf_1 (by decide) ?_
  refine r_icmp_le (tgt := 8) (pc := 3) dX0_markOf_3 (by decide) (fun h3 => ?_) (fun h3 => ?_)
  · refine r_aload_n (pc := 8) dX0_markOf_8 rfl ?_
    refine gf_X0_15 (pc := 9) dX0_markOf_9 rfl ?_
    refine r_iload_n (pc := 12) dX0_markOf_12 rfl ?_
    refine r_iald (pc := 13) dX0_markOf_13 rfl (show _ < 6 by omega) ?_
    refine r_is (nI k) hs ?_
    refine r_tsw (lo := 1) (hi := 5) (tgt := 95) (pc := 14) dX0_markOf_14 (by decide) (fun h14 => ?_) (fun q14 a14 b14 h14 => ?_)
    · exact (h14 k (by omega) (by omega) (by omega) rfl).elim
    · rcases (show q14 = 1 ∨ q14 = 2 ∨ q14 = 3 ∨ q14 = 4 ∨ q14 = 5 by omega) with rfl | rfl | rfl | rfl | rfl
      · refine r_tableIn (off := 34) (tgt := 48) (pc := 14) dX0_markOf_14 (by decide) (by decide) rfl (by decide) ?_
        have e14 : k = 1 := (nI_eq (by omega) (by omega)).mp h14
        subst e14
        refine r_aload_n (pc := 48) dX0_markOf_48 rfl ?_
        refine r_aload_n (pc := 49) dX0_markOf_49 rfl ?_
        refine r_iload_n (pc := 50) dX0_markOf_50 rfl ?_
        refine iv_X0_35 (c_X0_plainMark _ _ _ w hw ht) (pc := 51) dX0_markOf_51 rfl ⟨Nat.le_of_ble_eq_true rfl, Nat.le_of_ble_eq_true rfl⟩ (Nat.le_of_ble_eq_true rfl) hcs (kI ?_)
        exact r_iret (pc := 54) dX0_markOf_54 rfl ⟨by rw [mkV, hs]; rfl, by rw [mkL, hs]; rfl⟩
      · refine r_tableIn (off := 41) (tgt := 55) (pc := 14) dX0_markOf_14 (by decide) (by decide) rfl (by decide) ?_
        have e14 : k = 2 := (nI_eq (by omega) (by omega)).mp h14
        subst e14
        refine r_aload_n (pc := 55) dX0_markOf_55 rfl ?_
        refine r_bipush (v := nI 24) (pc := 56) dX0_markOf_56 (by decide) ?_
        refine iv_X0_24 (c_X0_begin _ _ _ _ ht) (pc := 58) dX0_markOf_58 rfl ⟨Nat.le_of_ble_eq_true rfl, Nat.le_of_ble_eq_true rfl⟩ (Nat.le_of_ble_eq_true rfl) hcs (kV ?_)
        refine r_iconst (v := nI 2) (pc := 61) dX0_markOf_61 (by decide) ?_
        refine r_aload_n (pc := 62) dX0_markOf_62 rfl ?_
        refine r_aload_n (pc := 63) dX0_markOf_63 rfl ?_
        refine r_iload_n (pc := 64) dX0_markOf_64 rfl ?_
        refine iv_X0_35 (c_X0_plainMark _ _ _ w hw (cbM_ok ht _)) (pc := 65) dX0_markOf_65 rfl ⟨Nat.le_of_ble_eq_true rfl, Nat.le_of_ble_eq_true rfl⟩ (Nat.le_of_ble_eq_true rfl) hcs (kI ?_)
        refine r_is (nI w + M 21 w) (by rw [cbM_q _ _ (by decide) (by decide)]) ?_
        first | with_reducible refine r_imulN (pc := 68) dX0_markOf_68 ?_ | refine r_imul (pc := 68) dX0_markOf_68 ?_
        exact r_iret (pc := 69) dX0_markOf_69 rfl ⟨by rw [mkV, hs]; rfl, by rw [mkL, hs]; rfl⟩
      · refine r_tableIn (off := 56) (tgt := 70) (pc := 14) dX0_markOf_14 (by decide) (by decide) rfl (by decide) ?_
        have e14 : k = 3 := (nI_eq (by omega) (by omega)).mp h14
        subst e14
        refine r_aload_n (pc := 70) dX0_markOf_70 rfl ?_
        refine r_bipush (v := nI 22) (pc := 71) dX0_markOf_71 (by decide) ?_
        refine iv_X0_24 (c_X0_begin _ _ _ _ ht) (pc := 73) dX0_markOf_73 rfl ⟨Nat.le_of_ble_eq_true rfl, Nat.le_of_ble_eq_true rfl⟩ (Nat.le_of_ble_eq_true rfl) hcs (kV ?_)
        refine r_aload_n (pc := 76) dX0_markOf_76 rfl ?_
        refine r_aload_n (pc := 77) dX0_markOf_77 rfl ?_
        refine r_iload_n (pc := 78) dX0_markOf_78 rfl ?_
        refine iv_X0_35 (c_X0_plainMark _ _ _ w hw (cbM_ok ht _)) (pc := 79) dX0_markOf_79 rfl ⟨Nat.le_of_ble_eq_true rfl, Nat.le_of_ble_eq_true rfl⟩ (Nat.le_of_ble_eq_true rfl) hcs (kI ?_)
        refine r_is (nI w + M 21 w) (by rw [cbM_q _ _ (by decide) (by decide)]) ?_
        refine r_sipush (v := nI 1000) (pc := 82) dX0_markOf_82 (by decide) ?_
        first | (with_reducible refine r_isubN (pc := 85) dX0_markOf_85 ?hle ?_; case hle => omega) | refine r_isub (pc := 85) dX0_markOf_85 ?_
        exact r_iret (pc := 86) dX0_markOf_86 rfl ⟨by rw [mkV, hs]; rfl, by rw [mkL, hs]; rfl⟩
      · refine r_tableIn (off := 73) (tgt := 87) (pc := 14) dX0_markOf_14 (by decide) (by decide) rfl (by decide) ?_
        have e14 : k = 4 := (nI_eq (by omega) (by omega)).mp h14
        subst e14
        refine r_aload_n (pc := 87) dX0_markOf_87 rfl ?_
        refine r_aload_n (pc := 88) dX0_markOf_88 rfl ?_
        refine r_iload_n (pc := 89) dX0_markOf_89 rfl ?_
        refine r_iload_n (pc := 90) dX0_markOf_90 rfl ?_
        refine iv_X0_38 (c_X0_oakMark _ _ _ w d _ hw ht hs hd (by omega)) (pc := 91) dX0_markOf_91 rfl ⟨Nat.le_of_ble_eq_true rfl, Nat.le_of_ble_eq_true rfl⟩ (Nat.le_of_ble_eq_true rfl) hcs (kI ?_)
        exact r_iret (pc := 94) dX0_markOf_94 rfl ⟨by rw [mkV, if_neg (by rw [hs]; decide), if_neg (by rw [hs]; decide), if_neg (by rw [hs]; decide)], by rw [mkL, if_neg (by rw [hs]; decide), if_neg (by rw [hs]; decide), if_neg (by rw [hs]; decide)]⟩
      · refine r_tableIn (off := 73) (tgt := 87) (pc := 14) dX0_markOf_14 (by decide) (by decide) rfl (by decide) ?_
        have e14 : k = 5 := (nI_eq (by omega) (by omega)).mp h14
        subst e14
        refine r_aload_n (pc := 87) dX0_markOf_87 rfl ?_
        refine r_aload_n (pc := 88) dX0_markOf_88 rfl ?_
        refine r_iload_n (pc := 89) dX0_markOf_89 rfl ?_
        refine r_iload_n (pc := 90) dX0_markOf_90 rfl ?_
        refine iv_X0_38 (c_X0_oakMark _ _ _ w d _ hw ht hs hd (by omega)) (pc := 91) dX0_markOf_91 rfl ⟨Nat.le_of_ble_eq_true rfl, Nat.le_of_ble_eq_true rfl⟩ (Nat.le_of_ble_eq_true rfl) hcs (kI ?_)
        exact r_iret (pc := 94) dX0_markOf_94 rfl ⟨by rw [mkV, if_neg (by rw [hs]; decide), if_neg (by rw [hs]; decide), if_neg (by rw [hs]; decide)], by rw [mkL, if_neg (by rw [hs]; decide), if_neg (by rw [hs]; decide), if_neg (by rw [hs]; decide)]⟩
  · exact absurd (nI_le (by omega) (by omega)) h3
set_option maxHeartbeats 4000000 in
set_option maxRecDepth 100000 in
theorem c_X0_plainSize (l : Launch) (G : Gx) (M : Mem) (w d k : Nat) (hw : w < 6) (ht : ctOK M) (hs : M 19 w = nI k) (hd : d ≤ 6) (hk1 : 1 ≤ k) (hk5 : k ≤ 5) : Con l G yX0_plainSize cX0_plainSize 5 (some .int) 9 370 [.ref (gA G 43), .ref (gA G 18), .int (nI w), .int (nI d)] M (rI (M 20 w + mkV (M 19 w) (M 20 w) (M 21 w) w) (cbL M ([11, 10] ++ mkL (M 19 w)))) := by
  refine Con.ofV [some (.ref (gA G 43)), some (.ref (gA G 18)), some (.int (nI w)), some (.int (nI d)), none] RX0 (by decide) rfl (Nat.le_of_ble_eq_true rfl) rfl ?_
  intro κ hl hG hk0 hn0
  subst hl hG
  have hcs : κ.k ≤ 0 ∧ κ.n ≤ 0 := ⟨Nat.le_of_eq hk0, Nat.le_of_eq hn0⟩
  refine r_aload_n (pc := 0) dX0_plainSize_0 rfl ?_
  refine r_bipush (v := nI 11) (pc := 1) dX0_plainSize_1 (by decide) ?_
  refine iv_X0_24 (c_X0_begin _ _ _ _ ht) (pc := 3) dX0_plainSize_3 rfl ⟨Nat.le_of_ble_eq_true rfl, Nat.le_of_ble_eq_true rfl⟩ (Nat.le_of_ble_eq_true rfl) hcs (kV ?_)
  refine r_aload_n (pc := 6) dX0_plainSize_6 rfl ?_
  refine r_aload_n (pc := 7) dX0_plainSize_7 rfl ?_
  refine r_iload_n (pc := 8) dX0_plainSize_8 rfl ?_
  refine iv_X0_32 (c_X0_lentSize _ _ _ w hw (cbM_ok ht _)) (pc := 9) dX0_plainSize_9 rfl ⟨Nat.le_of_ble_eq_true rfl, Nat.le_of_ble_eq_true rfl⟩ (Nat.le_of_ble_eq_true rfl) hcs (kI ?_)
  refine r_is (M 20 w) (by rw [cbM_q _ _ (by decide) (by decide)]) ?_
  refine r_st [_, _, _, _, _] (pc := 12) dX0_plainSize_12 (by decide) rfl rfl ?_
  refine r_iload (pc := 14) dX0_plainSize_14 rfl ?_
  refine r_aload_n (pc := 16) dX0_plainSize_16 rfl ?_
  refine r_aload_n (pc := 17) dX0_plainSize_17 rfl ?_
  refine r_iload_n (pc := 18) dX0_plainSize_18 rfl ?_
  refine r_iload_n (pc := 19) dX0_plainSize_19 rfl ?_
  refine r_iconst (v := nI 1) (pc := 20) dX0_plainSize_20 (by decide) ?_
  first | with_reducible refine r_iaddN (pc := 21) dX0_plainSize_21 ?_ | refine r_iadd (pc := 21) dX0_plainSize_21 ?_
  refine iv_X0_52 (c_X0_markOf _ _ _ w (d + 1) k hw (cbM_ok (cbM_ok ht _) _) (by rw [cbL_q _ _ (by decide) (by decide), cbM_q _ _ (by decide) (by decide)]; exact hs) (by omega) hk1 hk5) (pc := 22) dX0_plainSize_22 rfl ⟨Nat.le_of_ble_eq_true rfl, Nat.le_of_ble_eq_true rfl⟩ (Nat.le_of_ble_eq_true rfl) hcs (kI ?_)
  first | with_reducible refine r_iaddN (pc := 25) dX0_plainSize_25 ?_ | refine r_iadd (pc := 25) dX0_plainSize_25 ?_
  exact r_iret (pc := 26) dX0_plainSize_26 rfl ⟨by rw [cbL_q [10] _ (q := 19) (by decide) (by decide), cbL_q [10] _ (q := 20) (by decide) (by decide), cbL_q [10] _ (q := 21) (by decide) (by decide), cbM_q _ _ (by decide) (by decide), cbM_q _ _ (by decide) (by decide), cbM_q _ _ (by decide) (by decide)], by rw [cbL_q [10] _ (q := 19) (by decide) (by decide), cbM_q _ _ (by decide) (by decide)]; rfl⟩
set_option maxHeartbeats 4000000 in
set_option maxRecDepth 100000 in
theorem c_X0_sizeOf (l : Launch) (G : Gx) (M : Mem) (w d k : Nat) (hw : w < 6) (ht : ctOK M) (hs : M 19 w = nI k) (hd : d ≤ 6) (hk1 : 1 ≤ k) (hk5 : k ≤ 5) : Con l G yX0_sizeOf cX0_sizeOf 4 (some .int) 10 394 [.ref (gA G 43), .ref (gA G 18), .int (nI w), .int (nI d)] M (rI (szV (M 19 w) (M 20 w) (M 21 w) w) (cbL M (szL (M 19 w)))) := by
  refine Con.ofV [some (.ref (gA G 43)), some (.ref (gA G 18)), some (.int (nI w)), some (.int (nI d))] RX0 (by decide) rfl (Nat.le_of_ble_eq_true rfl) rfl ?_
  intro κ hl hG hk0 hn0
  subst hl hG
  have hcs : κ.k ≤ 0 ∧ κ.n ≤ 0 := ⟨Nat.le_of_eq hk0, Nat.le_of_eq hn0⟩
  refine r_iload_n (pc := 0) dX0_sizeOf_0 rfl ?_
  refine r_bipush (v := nI 8) (pc := 1) dX0_sizeOf_1 (by decide) ?_
  refine r_icmp_le (tgt := 8) (pc := 3) dX0_sizeOf_3 (by decide) (fun h3 => ?_) (fun h3 => ?_)
  · refine r_aload_n (pc := 8) dX0_sizeOf_8 rfl ?_
    refine gf_X0_15 (pc := 9) dX0_sizeOf_9 rfl ?_
    refine r_iload_n (pc := 12) dX0_sizeOf_12 rfl ?_
    refine r_iald (pc := 13) dX0_sizeOf_13 rfl (show _ < 6 by omega) ?_
    refine r_is (nI k) hs ?_
    refine r_tsw (lo := 1) (hi := 5) (tgt := 93) (pc := 14) dX0_sizeOf_14 (by decide) (fun h14 => ?_) (fun q14 a14 b14 h14 => ?_)
    · exact (h14 k (by omega) (by omega) (by omega) rfl).elim
    · rcases (show q14 = 1 ∨ q14 = 2 ∨ q14 = 3 ∨ q14 = 4 ∨ q14 = 5 by omega) with rfl | rfl | rfl | rfl | rfl
      · refine r_tableIn (off := 34) (tgt := 48) (pc := 14) dX0_sizeOf_14 (by decide) (by decide) rfl (by decide) ?_
        have e14 : k = 1 := (nI_eq (by omega) (by omega)).mp h14
        subst e14
        refine r_aload_n (pc := 48) dX0_sizeOf_48 rfl ?_
        refine r_aload_n (pc := 49) dX0_sizeOf_49 rfl ?_
        refine r_iload_n (pc := 50) dX0_sizeOf_50 rfl ?_
        refine r_iload_n (pc := 51) dX0_sizeOf_51 rfl ?_
        refine iv_X0_20 (c_X0_plainSize _ _ _ w d _ hw ht hs hd (by omega) (by omega)) (pc := 52) dX0_sizeOf_52 rfl ⟨Nat.le_of_ble_eq_true rfl, Nat.le_of_ble_eq_true rfl⟩ (Nat.le_of_ble_eq_true rfl) hcs (kI ?_)
        exact r_iret (pc := 55) dX0_sizeOf_55 rfl ⟨by rw [szV, if_neg (by rw [hs]; decide), if_pos (by rw [hs]; decide)], by rw [szL, if_neg (by rw [hs]; decide), if_pos (by rw [hs]; decide)]⟩
      · refine r_tableIn (off := 42) (tgt := 56) (pc := 14) dX0_sizeOf_14 (by decide) (by decide) rfl (by decide) ?_
        have e14 : k = 2 := (nI_eq (by omega) (by omega)).mp h14
        subst e14
        refine r_aload_n (pc := 56) dX0_sizeOf_56 rfl ?_
        refine r_bipush (v := nI 12) (pc := 57) dX0_sizeOf_57 (by decide) ?_
        refine iv_X0_24 (c_X0_begin _ _ _ _ ht) (pc := 59) dX0_sizeOf_59 rfl ⟨Nat.le_of_ble_eq_true rfl, Nat.le_of_ble_eq_true rfl⟩ (Nat.le_of_ble_eq_true rfl) hcs (kV ?_)
        refine r_aload_n (pc := 62) dX0_sizeOf_62 rfl ?_
        refine r_aload_n (pc := 63) dX0_sizeOf_63 rfl ?_
        refine r_iload_n (pc := 64) dX0_sizeOf_64 rfl ?_
        refine r_iload_n (pc := 65) dX0_sizeOf_65 rfl ?_
        refine iv_X0_20 (c_X0_plainSize _ _ _ w d 2 hw (cbM_ok ht _) (by rw [cbM_q _ _ (by decide) (by decide)]; exact hs) (by omega) (by omega) (by omega)) (pc := 66) dX0_sizeOf_66 rfl ⟨Nat.le_of_ble_eq_true rfl, Nat.le_of_ble_eq_true rfl⟩ (Nat.le_of_ble_eq_true rfl) hcs (kI ?_)
        refine r_ineg (pc := 69) dX0_sizeOf_69 ?_
        exact r_iret (pc := 70) dX0_sizeOf_70 rfl ⟨by rw [cbM_q _ _ (by decide) (by decide), cbM_q _ _ (by decide) (by decide), cbM_q _ _ (by decide) (by decide), szV, if_pos hs], by rw [cbM_q _ _ (by decide) (by decide), szL, if_pos hs]; rfl⟩
      · refine r_tableIn (off := 34) (tgt := 48) (pc := 14) dX0_sizeOf_14 (by decide) (by decide) rfl (by decide) ?_
        have e14 : k = 3 := (nI_eq (by omega) (by omega)).mp h14
        subst e14
        refine r_aload_n (pc := 48) dX0_sizeOf_48 rfl ?_
        refine r_aload_n (pc := 49) dX0_sizeOf_49 rfl ?_
        refine r_iload_n (pc := 50) dX0_sizeOf_50 rfl ?_
        refine r_iload_n (pc := 51) dX0_sizeOf_51 rfl ?_
        refine iv_X0_20 (c_X0_plainSize _ _ _ w d _ hw ht hs hd (by omega) (by omega)) (pc := 52) dX0_sizeOf_52 rfl ⟨Nat.le_of_ble_eq_true rfl, Nat.le_of_ble_eq_true rfl⟩ (Nat.le_of_ble_eq_true rfl) hcs (kI ?_)
        exact r_iret (pc := 55) dX0_sizeOf_55 rfl ⟨by rw [szV, if_neg (by rw [hs]; decide), if_pos (by rw [hs]; decide)], by rw [szL, if_neg (by rw [hs]; decide), if_pos (by rw [hs]; decide)]⟩
      · refine r_tableIn (off := 57) (tgt := 71) (pc := 14) dX0_sizeOf_14 (by decide) (by decide) rfl (by decide) ?_
        have e14 : k = 4 := (nI_eq (by omega) (by omega)).mp h14
        subst e14
        refine r_aload_n (pc := 71) dX0_sizeOf_71 rfl ?_
        refine r_aload_n (pc := 72) dX0_sizeOf_72 rfl ?_
        refine r_iload_n (pc := 73) dX0_sizeOf_73 rfl ?_
        refine iv_X0_28 (c_X0_oakSize _ _ _ w hw ht) (pc := 74) dX0_sizeOf_74 rfl ⟨Nat.le_of_ble_eq_true rfl, Nat.le_of_ble_eq_true rfl⟩ (Nat.le_of_ble_eq_true rfl) hcs (kI ?_)
        exact r_iret (pc := 77) dX0_sizeOf_77 rfl ⟨by rw [szV, if_neg (by rw [hs]; decide), if_neg (by rw [hs]; decide), okV, if_neg (by rw [hs]; decide)], by rw [szL, if_neg (by rw [hs]; decide), if_neg (by rw [hs]; decide), okL, if_neg (by rw [hs]; decide)]⟩
      · refine r_tableIn (off := 64) (tgt := 78) (pc := 14) dX0_sizeOf_14 (by decide) (by decide) rfl (by decide) ?_
        have e14 : k = 5 := (nI_eq (by omega) (by omega)).mp h14
        subst e14
        refine r_aload_n (pc := 78) dX0_sizeOf_78 rfl ?_
        refine r_bipush (v := nI 14) (pc := 79) dX0_sizeOf_79 (by decide) ?_
        refine iv_X0_24 (c_X0_begin _ _ _ _ ht) (pc := 81) dX0_sizeOf_81 rfl ⟨Nat.le_of_ble_eq_true rfl, Nat.le_of_ble_eq_true rfl⟩ (Nat.le_of_ble_eq_true rfl) hcs (kV ?_)
        refine r_iconst (v := nI 2) (pc := 84) dX0_sizeOf_84 (by decide) ?_
        refine r_aload_n (pc := 85) dX0_sizeOf_85 rfl ?_
        refine r_aload_n (pc := 86) dX0_sizeOf_86 rfl ?_
        refine r_iload_n (pc := 87) dX0_sizeOf_87 rfl ?_
        refine iv_X0_28 (c_X0_oakSize _ _ _ w hw (cbM_ok ht _)) (pc := 88) dX0_sizeOf_88 rfl ⟨Nat.le_of_ble_eq_true rfl, Nat.le_of_ble_eq_true rfl⟩ (Nat.le_of_ble_eq_true rfl) hcs (kI ?_)
        refine r_is (M 20 w - nI 100) (by rw [cbM_q _ _ (by decide) (by decide)]) ?_
        first | with_reducible refine r_imulN (pc := 91) dX0_sizeOf_91 ?_ | refine r_imul (pc := 91) dX0_sizeOf_91 ?_
        exact r_iret (pc := 92) dX0_sizeOf_92 rfl ⟨by rw [szV, if_neg (by rw [hs]; decide), if_neg (by rw [hs]; decide), okV, if_pos hs], by rw [szL, if_neg (by rw [hs]; decide), if_neg (by rw [hs]; decide), okL, if_pos hs]; rfl⟩
  · exact absurd (nI_le (by omega) (by omega)) h3
set_option maxHeartbeats 4000000 in
set_option maxRecDepth 100000 in
theorem c_X5_ask (l : Launch) (G : Gx) (M : Mem) (x y : Int32) (S : Nat → Int32) (n : Nat) (hm : ms 18 n S M) (hR : Rg n S) : Con l G yX5_ask cX5_ask 3 (some .int) 11 417 [.ref (gA G 14), .int x, .int y] M (fun v M' => (¬ (chG n x ∧ rgG 0 1 y) ∧ rI cBad M v M') ∨ (∃ k q, k < n ∧ q ≤ 1 ∧ x = nI k ∧ y = nI q ∧ rI (if q = 0 then szV (S (5 + k)) (S (11 + k)) (S (29 + k)) k else mkV (S (5 + k)) (S (11 + k)) (S (29 + k)) k) (cbL (mset M 43 1 (nI 0)) (if q = 0 then szL (S (5 + k)) else mkL (S (5 + k)))) v M')) := by
  refine Con.ofV [some (.ref (gA G 14)), some (.int x), some (.int y)] RX5 (by decide) rfl (Nat.le_of_ble_eq_true rfl) rfl ?_
  intro κ hl hG hk0 hn0
  subst hl hG
  have hcs : κ.k ≤ 0 ∧ κ.n ≤ 0 := ⟨Nat.le_of_eq hk0, Nat.le_of_eq hn0⟩
  generalize hPP : (fun v M' => (¬ (chG n x ∧ rgG 0 1 y) ∧ rI cBad M v M') ∨ (∃ k q, k < n ∧ q ≤ 1 ∧ x = nI k ∧ y = nI q ∧ rI (if q = 0 then szV (S (5 + k)) (S (11 + k)) (S (29 + k)) k else mkV (S (5 + k)) (S (11 + k)) (S (29 + k)) k) (cbL (mset M 43 1 (nI 0)) (if q = 0 then szL (S (5 + k)) else mkL (S (5 + k)))) v M')) = PP
  have hn := hm.1
  have hn6 := hR.1
  refine r_aload_n (pc := 0) dX5_ask_0 rfl ?_
  refine r_iload_n (pc := 1) dX5_ask_1 rfl ?_
  refine iv_X5_165 (c_X5_isChair _ _ _ _) (pc := 2) dX5_ask_2 rfl ⟨Nat.le_of_ble_eq_true rfl, Nat.le_of_ble_eq_true rfl⟩ (Nat.le_of_ble_eq_true rfl) hcs (kI ?_)
  refine r_ifeq_b (tgt := 17) (pc := 5) dX5_ask_5 (by decide) (fun h5 => ?_) (fun h5 => ?_)
  · have g5 : ¬ chG n x := fun z => h5 (ch_mpr hn hn6 z)
    refine r_ldc (pc := 17) dX5_ask_17 lk_X5_67 ?_
    exact r_iret (pc := 19) dX5_ask_19 rfl (by subst hPP; exact (Or.inl ⟨by first | exact fun z => g5 z.1 | exact fun z => g14 z.2, rfl, rfl⟩))
  · obtain ⟨k, hk, rfl⟩ := ch_mp hn hn6 h5
    refine r_iload_n (pc := 8) dX5_ask_8 rfl ?_
    refine r_iconst (v := nI 0) (pc := 9) dX5_ask_9 (by decide) ?_
    refine r_iconst (v := nI 1) (pc := 10) dX5_ask_10 (by decide) ?_
    refine iv_X5_63 (c_X5_within _ _ _ _ _ _) (pc := 11) dX5_ask_11 ⟨Nat.le_of_ble_eq_true rfl, Nat.le_of_ble_eq_true rfl⟩ (Nat.le_of_ble_eq_true rfl) hcs (kI ?_)
    refine r_ifne_b (tgt := 20) (pc := 14) dX5_ask_14 (by decide) (fun h14 => ?_) (fun h14 => ?_)
    · obtain ⟨q, hqa, hqb, rfl⟩ := rg_mp (a := 0) (b := 1) h14 (by omega) (by omega)
      obtain ⟨d, hd1, hd5, ed⟩ := (hR.c hk).1
      obtain ⟨z1, z2, z3, -⟩ := hm.2.2.2.2.2 k hk
      have y1 : mset M 43 1 (nI 0) 19 k = S (5 + k) := by rw [mset_ne _ _ _ (by decide)]; exact z1
      have y2 : mset M 43 1 (nI 0) 20 k = S (11 + k) := by rw [mset_ne _ _ _ (by decide)]; exact z2
      have y3 : mset M 43 1 (nI 0) 21 k = S (29 + k) := by rw [mset_ne _ _ _ (by decide)]; exact z3
      refine r_aload_n (pc := 20) dX5_ask_20 rfl ?_
      refine gf_X5_54 (pc := 21) dX5_ask_21 rfl ?_
      refine r_iconst (v := nI 0) (pc := 24) dX5_ask_24 (by decide) ?_
      refine pf_X5_284 (pc := 25) dX5_ask_25 rfl ?_
      refine r_iload_n (pc := 28) dX5_ask_28 rfl ?_
      refine r_if_ne (tgt := 48) (pc := 29) dX5_ask_29 (by decide) (fun h29 => ?_) (fun h29 => ?_)
      · have h29 : q ≠ 0 := fun z => h29 (by rw [z]; rfl)
        refine r_aload_n (pc := 48) dX5_ask_48 rfl ?_
        refine gf_X5_54 (pc := 49) dX5_ask_49 rfl ?_
        refine r_aload_n (pc := 52) dX5_ask_52 rfl ?_
        refine gf_X5_25 (pc := 53) dX5_ask_53 rfl ?_
        refine r_iload_n (pc := 56) dX5_ask_56 rfl ?_
        refine r_iconst (v := nI 0) (pc := 57) dX5_ask_57 (by decide) ?_
        refine iv_X5_289 (c_X0_markOf _ _ _ k 0 d (by omega) ⟨0, by omega, by rw [mset_eq, pk_us]⟩ (by rw [mset_ne _ _ _ (by decide)]; exact z1.trans ed) (by omega) hd1 hd5) (pc := 58) dX5_ask_58 rfl ⟨Nat.le_of_ble_eq_true rfl, Nat.le_of_ble_eq_true rfl⟩ (Nat.le_of_ble_eq_true rfl) hcs (kI ?_)
        exact r_iret (pc := 61) dX5_ask_61 rfl (by subst hPP; exact (Or.inr ⟨k, q, hk, hqb, rfl, rfl, by first | rw [if_pos h29, y1, y2, y3] | rw [if_neg h29, y1, y2, y3], by first | rw [if_pos h29, y1] | rw [if_neg h29, y1]⟩))
      · have h29 : q = 0 := (nI_eq (by omega) (by omega)).mp (h29.trans nI_0.symm)
        refine r_aload_n (pc := 32) dX5_ask_32 rfl ?_
        refine gf_X5_54 (pc := 33) dX5_ask_33 rfl ?_
        refine r_aload_n (pc := 36) dX5_ask_36 rfl ?_
        refine gf_X5_25 (pc := 37) dX5_ask_37 rfl ?_
        refine r_iload_n (pc := 40) dX5_ask_40 rfl ?_
        refine r_iconst (v := nI 0) (pc := 41) dX5_ask_41 (by decide) ?_
        refine iv_X5_285 (c_X0_sizeOf _ _ _ k 0 d (by omega) ⟨0, by omega, by rw [mset_eq, pk_us]⟩ (by rw [mset_ne _ _ _ (by decide)]; exact z1.trans ed) (by omega) hd1 hd5) (pc := 42) dX5_ask_42 rfl ⟨Nat.le_of_ble_eq_true rfl, Nat.le_of_ble_eq_true rfl⟩ (Nat.le_of_ble_eq_true rfl) hcs (kI ?_)
        refine r_goto (tgt := 61) (pc := 45) dX5_ask_45 (by decide) ?_
        exact r_iret (pc := 61) dX5_ask_61 rfl (by subst hPP; exact (Or.inr ⟨k, q, hk, hqb, rfl, rfl, by first | rw [if_pos h29, y1, y2, y3] | rw [if_neg h29, y1, y2, y3], by first | rw [if_pos h29, y1] | rw [if_neg h29, y1]⟩))
    · have g14 : ¬ rgG 0 1 y := fun z => h14 (rg_mpr z (by omega))
      refine r_ldc (pc := 17) dX5_ask_17 lk_X5_67 ?_
      exact r_iret (pc := 19) dX5_ask_19 rfl (by subst hPP; exact (Or.inl ⟨by first | exact fun z => g5 z.1 | exact fun z => g14 z.2, rfl, rfl⟩))
