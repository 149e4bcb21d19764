set_option maxHeartbeats 4000000 in
set_option maxRecDepth 100000 in
theorem c_X6_in (l : Launch) (G : Gx) (M : Mem) (a b c : Int64) : Con l G yX6_in cX6_in 6 (some .boolean) 0 0 [.long a, .long b, .long c] M (rI (bI (b ≤ a ∧ a ≤ c)) M) := by
  refine Con.ofV [some (.long a), none, some (.long b), none, some (.long c), none] RX6 (by decide) rfl (Nat.le_of_ble_eq_true rfl) rfl ?_
  intro κ hl hG hk0 hn0
  subst hl hG
  have hcs : κ.k ≤ 0 ∧ κ.n ≤ 0 := ⟨Nat.le_of_eq hk0, Nat.le_of_eq hn0⟩
  refine r_lload_n (pc := 0) dX6_in_0 rfl ?_
  refine r_lload_n (pc := 1) dX6_in_1 rfl ?_
  refine r_lcmp (pc := 2) dX6_in_2 ?_
  refine r_if_lt (tgt := 17) (pc := 3) dX6_in_3 (by decide) (fun h3 => ?_) (fun h3 => ?_)
  · have hp : ¬ (b ≤ a ∧ a ≤ c) := fun h => absurd ((lg_cmp_ge a b).mpr h.1) (Int32.not_le.mpr h3)
    refine r_iconst (v := nI 0) (pc := 17) dX6_in_17 (by decide) ?_
    exact r_zret (pc := 18) dX6_in_18 rfl (by first | rfl | exact bI_narrow) (by first | exact rI_1 hp | exact rI_0 hp)
  · refine r_lload_n (pc := 6) dX6_in_6 rfl ?_
    refine r_lload (pc := 7) dX6_in_7 rfl ?_
    refine r_lcmp (pc := 9) dX6_in_9 ?_
    refine r_if_gt (tgt := 17) (pc := 10) dX6_in_10 (by decide) (fun h10 => ?_) (fun h10 => ?_)
    · have hp : ¬ (b ≤ a ∧ a ≤ c) := fun h => absurd ((lg_cmp_le a c).mpr h.2) (Int32.not_le.mpr h10)
      refine r_iconst (v := nI 0) (pc := 17) dX6_in_17 (by decide) ?_
      exact r_zret (pc := 18) dX6_in_18 rfl (by first | rfl | exact bI_narrow) (by first | exact rI_1 hp | exact rI_0 hp)
    · have hp : b ≤ a ∧ a ≤ c := ⟨(lg_cmp_ge a b).mp (Int32.not_lt.mp h3), (lg_cmp_le a c).mp (Int32.not_lt.mp h10)⟩
      refine r_iconst (v := nI 1) (pc := 13) dX6_in_13 (by decide) ?_
      refine r_goto (tgt := 18) (pc := 14) dX6_in_14 (by decide) ?_
      exact r_zret (pc := 18) dX6_in_18 rfl (by first | rfl | exact bI_narrow) (by first | exact rI_1 hp | exact rI_0 hp)
set_option maxHeartbeats 4000000 in
set_option maxRecDepth 100000 in
theorem c_X6_has (l : Launch) (G : Gx) (M : Mem) (w c : Int32) : Con l G yX6_has cX6_has 2 (some .boolean) 0 0 [.int w, .int c] M (rI (bI (hasB w c)) M) := by
  refine Con.ofV [some (.int w), some (.int c)] RX6 (by decide) rfl (Nat.le_of_ble_eq_true rfl) rfl ?_
  intro κ hl hG hk0 hn0
  subst hl hG
  have hcs : κ.k ≤ 0 ∧ κ.n ≤ 0 := ⟨Nat.le_of_eq hk0, Nat.le_of_eq hn0⟩
  refine r_iload_n (pc := 0) dX6_has_0 rfl ?_
  refine r_iload_n (pc := 1) dX6_has_1 rfl ?_
  refine r_ishr (pc := 2) dX6_has_2 ?_
  refine r_iconst (v := nI 1) (pc := 3) dX6_has_3 (by decide) ?_
  refine r_iand (pc := 4) dX6_has_4 ?_
  refine r_iconst (v := nI 1) (pc := 5) dX6_has_5 (by decide) ?_
  refine r_icmp_ne (tgt := 13) (pc := 6) dX6_has_6 (by decide) (fun h6 => ?_) (fun h6 => ?_)
  · have hp : ¬ hasB w c := h6
    refine r_iconst (v := nI 0) (pc := 13) dX6_has_13 (by decide) ?_
    exact r_zret (pc := 14) dX6_has_14 rfl (by first | rfl | exact bI_narrow) (by first | exact rI_1 hp | exact rI_0 hp)
  · have hp : hasB w c := h6
    refine r_iconst (v := nI 1) (pc := 9) dX6_has_9 (by decide) ?_
    refine r_goto (tgt := 14) (pc := 10) dX6_has_10 (by decide) ?_
    exact r_zret (pc := 14) dX6_has_14 rfl (by first | rfl | exact bI_narrow) (by first | exact rI_1 hp | exact rI_0 hp)
theorem c_X6_inI (l : Launch) (G : Gx) (M : Mem) (x lo hi : Int32) : Con l G yX6_in cX6_in 6 (some .boolean) 0 0 [.long x.toInt64, .long lo.toInt64, .long hi.toInt64] M (rI (bI (lo ≤ x ∧ x ≤ hi)) M) := by
  have h := c_X6_in l G M x.toInt64 lo.toInt64 hi.toInt64
  rw [bI_congr (show (lo.toInt64 ≤ x.toInt64 ∧ x.toInt64 ≤ hi.toInt64) ↔ (lo ≤ x ∧ x ≤ hi) by rw [fa_wide_le, fa_wide_le])] at h
  exact h
set_option maxHeartbeats 4000000 in
set_option maxRecDepth 100000 in
theorem c_X6_find (l : Launch) (G : Gx) (M : Mem) (v : Int32) : Con l G yX6_find cX6_find 2 (some .int) 0 0 [.ref (gA G 0), .int v] M (rI (-1000010 - v) (mset M 0 3 v)) := by
  refine Con.ofV [some (.ref (gA G 0)), some (.int v)] RX6 (by decide) rfl (Nat.le_of_ble_eq_true rfl) rfl ?_
  intro κ hl hG hk0 hn0
  subst hl hG
  have hcs : κ.k ≤ 0 ∧ κ.n ≤ 0 := ⟨Nat.le_of_eq hk0, Nat.le_of_eq hn0⟩
  refine r_aload_n (pc := 0) dX6_find_0 rfl ?_
  refine r_iload_n (pc := 1) dX6_find_1 rfl ?_
  refine pf_X6_50 (pc := 2) dX6_find_2 rfl ?_
  refine r_ldc (pc := 5) dX6_find_5 lk_X6_54 ?_
  refine r_iload_n (pc := 7) dX6_find_7 rfl ?_
  first | (with_reducible refine r_isubN (pc := 8) dX6_find_8 ?hle ?_; case hle => omega) | refine r_isub (pc := 8) dX6_find_8 ?_
  exact r_iret (pc := 9) dX6_find_9 rfl ⟨rfl, rfl⟩
set_option maxHeartbeats 4000000 in
set_option maxRecDepth 100000 in
theorem c_X6_well (l : Launch) (G : Gx) (M : Mem) (v : Int32) : Con l G yX6_well cX6_well 2 (some .int) 0 0 [.ref (gA G 0), .int v] M (rI v (mset M 0 3 (nI 0))) := by
  refine Con.ofV [some (.ref (gA G 0)), some (.int v)] RX6 (by decide) rfl (Nat.le_of_ble_eq_true rfl) rfl ?_
  intro κ hl hG hk0 hn0
  subst hl hG
  have hcs : κ.k ≤ 0 ∧ κ.n ≤ 0 := ⟨Nat.le_of_eq hk0, Nat.le_of_eq hn0⟩
  refine r_aload_n (pc := 0) dX6_well_0 rfl ?_
  refine r_iconst (v := nI 0) (pc := 1) dX6_well_1 (by decide) ?_
  refine pf_X6_50 (pc := 2) dX6_well_2 rfl ?_
  refine r_iload_n (pc := 5) dX6_well_5 rfl ?_
  exact r_iret (pc := 6) dX6_well_6 rfl ⟨rfl, rfl⟩
set_option maxHeartbeats 4000000 in
set_option maxRecDepth 100000 in
theorem c_X6_isRow (l : Launch) (G : Gx) (M : Mem) (r : Int32) : Con l G yX6_isRow cX6_isRow 1 (some .boolean) 1 25 [.int r] M (rI (bI (nI 0 ≤ r ∧ r ≤ nI 7)) M) := by
  refine Con.ofV [some (.int r)] RX6 (by decide) rfl (Nat.le_of_ble_eq_true rfl) rfl ?_
  intro κ hl hG hk0 hn0
  subst hl hG
  have hcs : κ.k ≤ 0 ∧ κ.n ≤ 0 := ⟨Nat.le_of_eq hk0, Nat.le_of_eq hn0⟩
  refine r_iload_n (pc := 0) dX6_isRow_0 rfl ?_
  refine r_i2l (pc := 1) dX6_isRow_1 ?_
  refine r_lconst (v := (nI 0).toInt64) (pc := 2) dX6_isRow_2 (by decide) ?_
  refine r_ldc2 (pc := 3) dX6_isRow_3 lk_X6_55 ?_
  refine iv_X6_57 (c_X6_inI _ _ _ _ _ _) (pc := 6) dX6_isRow_6 ⟨Nat.le_of_ble_eq_true rfl, Nat.le_of_ble_eq_true rfl⟩ (Nat.le_of_ble_eq_true rfl) hcs (kI ?_)
  exact r_zret (pc := 9) dX6_isRow_9 rfl (by first | rfl | exact bI_narrow) ⟨rfl, rfl⟩
set_option maxHeartbeats 4000000 in
set_option maxRecDepth 100000 in
theorem c_X6_isWhat (l : Launch) (G : Gx) (M : Mem) (r : Int32) : Con l G yX6_isWhat cX6_isWhat 1 (some .boolean) 1 25 [.int r] M (rI (bI (nI 0 ≤ r ∧ r ≤ nI 1)) M) := by
  refine Con.ofV [some (.int r)] RX6 (by decide) rfl (Nat.le_of_ble_eq_true rfl) rfl ?_
  intro κ hl hG hk0 hn0
  subst hl hG
  have hcs : κ.k ≤ 0 ∧ κ.n ≤ 0 := ⟨Nat.le_of_eq hk0, Nat.le_of_eq hn0⟩
  refine r_iload_n (pc := 0) dX6_isWhat_0 rfl ?_
  refine r_i2l (pc := 1) dX6_isWhat_1 ?_
  refine r_lconst (v := (nI 0).toInt64) (pc := 2) dX6_isWhat_2 (by decide) ?_
  refine r_lconst (v := (nI 1).toInt64) (pc := 3) dX6_isWhat_3 (by decide) ?_
  refine iv_X6_57 (c_X6_inI _ _ _ _ _ _) (pc := 4) dX6_isWhat_4 ⟨Nat.le_of_ble_eq_true rfl, Nat.le_of_ble_eq_true rfl⟩ (Nat.le_of_ble_eq_true rfl) hcs (kI ?_)
  exact r_zret (pc := 7) dX6_isWhat_7 rfl (by first | rfl | exact bI_narrow) ⟨rfl, rfl⟩
set_option maxHeartbeats 4000000 in
set_option maxRecDepth 100000 in
theorem c_X6_asLane (l : Launch) (G : Gx) (M : Mem) (a v : Int32) : Con l G yX6_asLane cX6_asLane 2 (some .int) 0 0 [.int a, .int v] M (rI (if a = 0 then v <<< (nI 24 &&& 31) >>> (nI 24 &&& 31) else if a = nI 1 then v <<< (nI 16 &&& 31) >>> (nI 16 &&& 31) else v) M) := by
  refine Con.ofV [some (.int a), some (.int v)] RX6 (by decide) rfl (Nat.le_of_ble_eq_true rfl) rfl ?_
  intro κ hl hG hk0 hn0
  subst hl hG
  have hcs : κ.k ≤ 0 ∧ κ.n ≤ 0 := ⟨Nat.le_of_eq hk0, Nat.le_of_eq hn0⟩
  refine r_iload_n (pc := 0) dX6_asLane_0 rfl ?_
  refine r_if_ne (tgt := 14) (pc := 1) dX6_asLane_1 (by decide) (fun h1 => ?_) (fun h1 => ?_)
  · refine r_iload_n (pc := 14) dX6_asLane_14 rfl ?_
    refine r_iconst (v := nI 1) (pc := 15) dX6_asLane_15 (by decide) ?_
    refine r_icmp_ne (tgt := 29) (pc := 16) dX6_asLane_16 (by decide) (fun h16 => ?_) (fun h16 => ?_)
    · refine r_iload_n (pc := 29) dX6_asLane_29 rfl ?_
      exact r_iret (pc := 30) dX6_asLane_30 rfl ⟨by first | rw [if_pos h1] | rw [if_neg h1, if_pos h16] | rw [if_neg h1, if_neg h16], rfl⟩
    · refine r_iload_n (pc := 19) dX6_asLane_19 rfl ?_
      refine r_bipush (v := nI 16) (pc := 20) dX6_asLane_20 (by decide) ?_
      refine r_ishl (pc := 22) dX6_asLane_22 ?_
      refine r_bipush (v := nI 16) (pc := 23) dX6_asLane_23 (by decide) ?_
      refine r_ishr (pc := 25) dX6_asLane_25 ?_
      refine r_goto (tgt := 30) (pc := 26) dX6_asLane_26 (by decide) ?_
      exact r_iret (pc := 30) dX6_asLane_30 rfl ⟨by first | rw [if_pos h1] | rw [if_neg h1, if_pos h16] | rw [if_neg h1, if_neg h16], rfl⟩
  · refine r_iload_n (pc := 4) dX6_asLane_4 rfl ?_
    refine r_bipush (v := nI 24) (pc := 5) dX6_asLane_5 (by decide) ?_
    refine r_ishl (pc := 7) dX6_asLane_7 ?_
    refine r_bipush (v := nI 24) (pc := 8) dX6_asLane_8 (by decide) ?_
    refine r_ishr (pc := 10) dX6_asLane_10 ?_
    refine r_goto (tgt := 30) (pc := 11) dX6_asLane_11 (by decide) ?_
    exact r_iret (pc := 30) dX6_asLane_30 rfl ⟨by first | rw [if_pos h1] | rw [if_neg h1, if_pos h16] | rw [if_neg h1, if_neg h16], rfl⟩
set_option maxHeartbeats 4000000 in
set_option maxRecDepth 100000 in
theorem c_X6_isChair (l : Launch) (G : Gx) (M : Mem) (c : Int32) : Con l G yX6_isChair cX6_isChair 2 (some .boolean) 1 25 [.ref (gA G 0), .int c] M (rI (bI (nI 0 ≤ c ∧ c ≤ M 4 2 - nI 1)) M) := by
  refine Con.ofV [some (.ref (gA G 0)), some (.int c)] RX6 (by decide) rfl (Nat.le_of_ble_eq_true rfl) rfl ?_
  intro κ hl hG hk0 hn0
  subst hl hG
  have hcs : κ.k ≤ 0 ∧ κ.n ≤ 0 := ⟨Nat.le_of_eq hk0, Nat.le_of_eq hn0⟩
  refine r_iload_n (pc := 0) dX6_isChair_0 rfl ?_
  refine r_i2l (pc := 1) dX6_isChair_1 ?_
  refine r_lconst (v := (nI 0).toInt64) (pc := 2) dX6_isChair_2 (by decide) ?_
  refine r_aload_n (pc := 3) dX6_isChair_3 rfl ?_
  refine gf_X6_19 (pc := 4) dX6_isChair_4 rfl ?_
  refine r_iconst (v := nI 2) (pc := 7) dX6_isChair_7 (by decide) ?_
  refine r_iald (pc := 8) dX6_isChair_8 rfl (show _ < 41 by omega) ?_
  refine r_iconst (v := nI 1) (pc := 9) dX6_isChair_9 (by decide) ?_
  first | (with_reducible refine r_isubN (pc := 10) dX6_isChair_10 ?hle ?_; case hle => omega) | refine r_isub (pc := 10) dX6_isChair_10 ?_
  refine r_i2l (pc := 11) dX6_isChair_11 ?_
  refine iv_X6_57 (c_X6_inI _ _ _ _ _ _) (pc := 12) dX6_isChair_12 ⟨Nat.le_of_ble_eq_true rfl, Nat.le_of_ble_eq_true rfl⟩ (Nat.le_of_ble_eq_true rfl) hcs (kI ?_)
  exact r_zret (pc := 15) dX6_isChair_15 rfl (by first | rfl | exact bI_narrow) ⟨rfl, rfl⟩
set_option maxHeartbeats 4000000 in
set_option maxRecDepth 100000 in
theorem c_X6_highBy (l : Launch) (G : Gx) (M : Mem) (a b c : Int32) : Con l G yX6_highBy cX6_highBy 3 (some .int) 0 0 [.int a, .int b, .int c] M (rI (highB a b c) M) := by
  refine Con.ofV [some (.int a), some (.int b), some (.int c)] RX6 (by decide) rfl (Nat.le_of_ble_eq_true rfl) rfl ?_
  intro κ hl hG hk0 hn0
  subst hl hG
  have hcs : κ.k ≤ 0 ∧ κ.n ≤ 0 := ⟨Nat.le_of_eq hk0, Nat.le_of_eq hn0⟩
  refine r_iload_n (pc := 0) dX6_highBy_0 rfl ?_
  refine r_tsw (lo := 2) (hi := 5) (tgt := 60) (pc := 1) dX6_highBy_1 (by decide) (fun h1 => ?_) (fun q1 a1 b1 h1 => ?_)
  · have e : highB a b c = b + c := by rw [highB, if_neg (h1 2 (by omega) (by omega) (by omega)), if_neg (h1 3 (by omega) (by omega) (by omega)), if_neg (h1 4 (by omega) (by omega) (by omega)), if_neg (h1 5 (by omega) (by omega) (by omega))]
    refine r_iload_n (pc := 60) dX6_highBy_60 rfl ?_
    refine r_iload_n (pc := 61) dX6_highBy_61 rfl ?_
    first | with_reducible refine r_iaddN (pc := 62) dX6_highBy_62 ?_ | refine r_iadd (pc := 62) dX6_highBy_62 ?_
    exact r_iret (pc := 63) dX6_highBy_63 rfl ⟨by rw [e], rfl⟩
  · rcases (show q1 = 2 ∨ q1 = 3 ∨ q1 = 4 ∨ q1 = 5 by omega) with rfl | rfl | rfl | rfl
    · refine r_tableIn (off := 31) (tgt := 32) (pc := 1) dX6_highBy_1 (by decide) (by decide) rfl (by decide) ?_
      subst h1
      have e : highB (nI 2) b c = (b + c) / nI 2 * nI 2 := rfl
      refine r_iload_n (pc := 32) dX6_highBy_32 rfl ?_
      refine r_iload_n (pc := 33) dX6_highBy_33 rfl ?_
      first | with_reducible refine r_iaddN (pc := 34) dX6_highBy_34 ?_ | refine r_iadd (pc := 34) dX6_highBy_34 ?_
      refine r_iconst (v := nI 2) (pc := 35) dX6_highBy_35 (by decide) ?_
      refine r_idiv (pc := 36) dX6_highBy_36 (by decide) ?_
      refine r_iconst (v := nI 2) (pc := 37) dX6_highBy_37 (by decide) ?_
      first | with_reducible refine r_imulN (pc := 38) dX6_highBy_38 ?_ | refine r_imul (pc := 38) dX6_highBy_38 ?_
      exact r_iret (pc := 39) dX6_highBy_39 rfl ⟨by rw [e], rfl⟩
    · refine r_tableIn (off := 39) (tgt := 40) (pc := 1) dX6_highBy_1 (by decide) (by decide) rfl (by decide) ?_
      subst h1
      have e : highB (nI 3) b c = b + nI 2 * c := rfl
      refine r_iload_n (pc := 40) dX6_highBy_40 rfl ?_
      refine r_iconst (v := nI 2) (pc := 41) dX6_highBy_41 (by decide) ?_
      refine r_iload_n (pc := 42) dX6_highBy_42 rfl ?_
      first | with_reducible refine r_imulN (pc := 43) dX6_highBy_43 ?_ | refine r_imul (pc := 43) dX6_highBy_43 ?_
      first | with_reducible refine r_iaddN (pc := 44) dX6_highBy_44 ?_ | refine r_iadd (pc := 44) dX6_highBy_44 ?_
      exact r_iret (pc := 45) dX6_highBy_45 rfl ⟨by rw [e], rfl⟩
    · refine r_tableIn (off := 45) (tgt := 46) (pc := 1) dX6_highBy_1 (by decide) (by decide) rfl (by decide) ?_
      subst h1
      have e : highB (nI 4) b c = b := rfl
      refine r_iload_n (pc := 46) dX6_highBy_46 rfl ?_
      exact r_iret (pc := 47) dX6_highBy_47 rfl ⟨by rw [e], rfl⟩
    · refine r_tableIn (off := 47) (tgt := 48) (pc := 1) dX6_highBy_1 (by decide) (by decide) rfl (by decide) ?_
      subst h1
      have e : highB (nI 5) b c = if b ≤ 0 then nI 0 else b + nI 5 := rfl
      refine r_iload_n (pc := 48) dX6_highBy_48 rfl ?_
      refine r_if_le (tgt := 58) (pc := 49) dX6_highBy_49 (by decide) (fun h49 => ?_) (fun h49 => ?_)
      · rw [if_pos h49] at e
        refine r_iconst (v := nI 0) (pc := 58) dX6_highBy_58 (by decide) ?_
        exact r_iret (pc := 59) dX6_highBy_59 rfl ⟨by rw [e], rfl⟩
      · rw [if_neg h49] at e
        refine r_iload_n (pc := 52) dX6_highBy_52 rfl ?_
        refine r_iconst (v := nI 5) (pc := 53) dX6_highBy_53 (by decide) ?_
        first | with_reducible refine r_iaddN (pc := 54) dX6_highBy_54 ?_ | refine r_iadd (pc := 54) dX6_highBy_54 ?_
        refine r_goto (tgt := 59) (pc := 55) dX6_highBy_55 (by decide) ?_
        exact r_iret (pc := 59) dX6_highBy_59 rfl ⟨by rw [e], rfl⟩
set_option maxHeartbeats 4000000 in
set_option maxRecDepth 100000 in
theorem c_X6_highOf (l : Launch) (G : Gx) (M : Mem) (k : Nat) (hk : k < 6) : Con l G yX6_highOf cX6_highOf 2 (some .int) 1 22 [.ref (gA G 0), .int (nI k)] M (rI (highS (M 4) k) M) := by
  refine Con.ofV [some (.ref (gA G 0)), some (.int (nI k))] RX6 (by decide) rfl (Nat.le_of_ble_eq_true rfl) rfl ?_
  intro κ hl hG hk0 hn0
  subst hl hG
  have hcs : κ.k ≤ 0 ∧ κ.n ≤ 0 := ⟨Nat.le_of_eq hk0, Nat.le_of_eq hn0⟩
  refine r_aload_n (pc := 0) dX6_highOf_0 rfl ?_
  refine gf_X6_19 (pc := 1) dX6_highOf_1 rfl ?_
  refine r_iconst (v := nI 5) (pc := 4) dX6_highOf_4 (by decide) ?_
  refine r_iload_n (pc := 5) dX6_highOf_5 rfl ?_
  first | with_reducible refine r_iaddN (pc := 6) dX6_highOf_6 ?_ | refine r_iadd (pc := 6) dX6_highOf_6 ?_
  refine r_iald (pc := 7) dX6_highOf_7 rfl (show _ < 41 by omega) ?_
  refine r_aload_n (pc := 8) dX6_highOf_8 rfl ?_
  refine gf_X6_19 (pc := 9) dX6_highOf_9 rfl ?_
  refine r_bipush (v := nI 11) (pc := 12) dX6_highOf_12 (by decide) ?_
  refine r_iload_n (pc := 14) dX6_highOf_14 rfl ?_
  first | with_reducible refine r_iaddN (pc := 15) dX6_highOf_15 ?_ | refine r_iadd (pc := 15) dX6_highOf_15 ?_
  refine r_iald (pc := 16) dX6_highOf_16 rfl (show _ < 41 by omega) ?_
  refine r_aload_n (pc := 17) dX6_highOf_17 rfl ?_
  refine gf_X6_19 (pc := 18) dX6_highOf_18 rfl ?_
  refine r_bipush (v := nI 29) (pc := 21) dX6_highOf_21 (by decide) ?_
  refine r_iload_n (pc := 23) dX6_highOf_23 rfl ?_
  first | with_reducible refine r_iaddN (pc := 24) dX6_highOf_24 ?_ | refine r_iadd (pc := 24) dX6_highOf_24 ?_
  refine r_iald (pc := 25) dX6_highOf_25 rfl (show _ < 41 by omega) ?_
  refine iv_X6_142 (c_X6_highBy _ _ _ _ _ _) (pc := 26) dX6_highOf_26 ⟨Nat.le_of_ble_eq_true rfl, Nat.le_of_ble_eq_true rfl⟩ (Nat.le_of_ble_eq_true rfl) hcs (kI ?_)
  exact r_iret (pc := 29) dX6_highOf_29 rfl ⟨rfl, rfl⟩
set_option maxHeartbeats 4000000 in
set_option maxRecDepth 100000 in
theorem c_X6_rankOf (l : Launch) (G : Gx) (M : Mem) (k n : Nat) (hk : k < 6) (hn : M 4 2 = nI n) (hn6 : n ≤ 6) : Con l G yX6_rankOf cX6_rankOf 4 (some .int) 2 43 [.ref (gA G 0), .int (nI k)] M (rI (nI (rankN (M 4) k n)) M) := by
  refine Con.ofV [some (.ref (gA G 0)), some (.int (nI k)), none, none] RX6 (by decide) rfl (Nat.le_of_ble_eq_true rfl) rfl ?_
  intro κ hl hG hk0 hn0
  subst hl hG
  have hcs : κ.k ≤ 0 ∧ κ.n ≤ 0 := ⟨Nat.le_of_eq hk0, Nat.le_of_eq hn0⟩
  refine r_iconst (v := nI 0) (pc := 0) dX6_rankOf_0 (by decide) ?_
  refine r_st_n [_, _, _, _] (pc := 1) dX6_rankOf_1 (by decide) rfl rfl ?_
  refine r_iconst (v := nI 0) (pc := 2) dX6_rankOf_2 (by decide) ?_
  refine r_st_n [_, _, _, _] (pc := 3) dX6_rankOf_3 (by decide) rfl rfl ?_
  refine V.bk (loopV (fun (σ : Nat × Nat) => V κ cX6_rankOf RX6 4 (some .int) (rmx 2 43) (QM κ (rI (nI (rankN (M 4) k n)) M)) M 4 [some (.ref (gA κ.G 0)), some (.int (nI k)), some (.int (nI (σ.2))), some (.int (nI (σ.1)))] []) (fun (σ : Nat × Nat) => (σ.1) ≤ n ∧ (σ.2) = rankN (M 4) k (σ.1)) (fun (σ : Nat × Nat) => n - (σ.1)) ?_ (0, 0) ⟨Nat.zero_le _, rfl⟩) rfl (by (repeat (first | exact wk_0 | refine wk_n ?_ | refine wk_s rfl ?_)); done)
  rintro ⟨j, r⟩ hI0 ih
  dsimp only at hI0 ih
  obtain ⟨hj, hr⟩ := hI0
  show V κ cX6_rankOf RX6 4 (some .int) (rmx 2 43) (QM κ (rI (nI (rankN (M 4) k n)) M)) M 4 [some (.ref (gA κ.G 0)), some (.int (nI k)), some (.int (nI r)), some (.int (nI j))] []
  refine r_iload_n (pc := 4) dX6_rankOf_4 rfl ?_
  refine r_aload_n (pc := 5) dX6_rankOf_5 rfl ?_
  refine gf_X6_19 (pc := 6) dX6_rankOf_6 rfl ?_
  refine r_iconst (v := nI 2) (pc := 9) dX6_rankOf_9 (by decide) ?_
  refine r_iald (pc := 10) dX6_rankOf_10 rfl (show _ < 41 by omega) ?_
  refine r_is (nI n) hn ?_
  refine r_icmp_ge (tgt := 59) (pc := 11) dX6_rankOf_11 (by decide) (fun h11 => ?_) (fun h11 => ?_)
  · have h11 : n ≤ j := (nI_leI (by omega) (by omega)).mp h11
    refine r_iload_n (pc := 59) dX6_rankOf_59 rfl ?_
    exact r_iret (pc := 60) dX6_rankOf_60 rfl ⟨by rw [hr, show j = n by omega], rfl⟩
  · have h11 : j < n := Nat.not_le.mp (fun z => h11 ((nI_leI (by omega) (by omega)).mpr z))
    refine r_iload_n (pc := 14) dX6_rankOf_14 rfl ?_
    refine r_aload_n (pc := 15) dX6_rankOf_15 rfl ?_
    refine r_iload_n (pc := 16) dX6_rankOf_16 rfl ?_
    refine iv_X6_146 (c_X6_highOf _ _ _ _ (by omega)) (pc := 17) dX6_rankOf_17 rfl ⟨Nat.le_of_ble_eq_true rfl, Nat.le_of_ble_eq_true rfl⟩ (Nat.le_of_ble_eq_true rfl) hcs (kI ?_)
    refine r_aload_n (pc := 20) dX6_rankOf_20 rfl ?_
    refine r_iload_n (pc := 21) dX6_rankOf_21 rfl ?_
    refine iv_X6_146 (c_X6_highOf _ _ _ _ (by omega)) (pc := 22) dX6_rankOf_22 rfl ⟨Nat.le_of_ble_eq_true rfl, Nat.le_of_ble_eq_true rfl⟩ (Nat.le_of_ble_eq_true rfl) hcs (kI ?_)
    refine r_icmp_gt (tgt := 46) (pc := 25) dX6_rankOf_25 (by decide) (fun h25 => ?_) (fun h25 => ?_)
    · refine r_iconst (v := nI 1) (pc := 46) dX6_rankOf_46 (by decide) ?_
      refine r_goto (tgt := 51) (pc := 47) dX6_rankOf_47 (by decide) ?_
      first | with_reducible refine r_iaddN (pc := 51) dX6_rankOf_51 ?_ | refine r_iadd (pc := 51) dX6_rankOf_51 ?_
      refine r_st_n [_, _, _, _] (pc := 52) dX6_rankOf_52 (by decide) rfl rfl ?_
      first | refine r_inc [_, _, _, _] (pc := 53) dX6_rankOf_53 rfl (nI_inc _) (by decide) rfl rfl ?_ | refine r_inc [_, _, _, _] (pc := 53) dX6_rankOf_53 rfl rfl (by decide) rfl rfl ?_
      refine r_goto (tgt := 4) (pc := 56) dX6_rankOf_56 (by decide) ?_
      exact ih (j + 1, _) ⟨by omega, by subst hr; simp only [rankN, abv]; simp [*]⟩ (by omega)
    · refine r_aload_n (pc := 28) dX6_rankOf_28 rfl ?_
      refine r_iload_n (pc := 29) dX6_rankOf_29 rfl ?_
      refine iv_X6_146 (c_X6_highOf _ _ _ _ (by omega)) (pc := 30) dX6_rankOf_30 rfl ⟨Nat.le_of_ble_eq_true rfl, Nat.le_of_ble_eq_true rfl⟩ (Nat.le_of_ble_eq_true rfl) hcs (kI ?_)
      refine r_aload_n (pc := 33) dX6_rankOf_33 rfl ?_
      refine r_iload_n (pc := 34) dX6_rankOf_34 rfl ?_
      refine iv_X6_146 (c_X6_highOf _ _ _ _ (by omega)) (pc := 35) dX6_rankOf_35 rfl ⟨Nat.le_of_ble_eq_true rfl, Nat.le_of_ble_eq_true rfl⟩ (Nat.le_of_ble_eq_true rfl) hcs (kI ?_)
      refine r_icmp_ne (tgt := 50) (pc := 38) dX6_rankOf_38 (by decide) (fun h38 => ?_) (fun h38 => ?_)
      · refine r_iconst (v := nI 0) (pc := 50) dX6_rankOf_50 (by decide) ?_
        first | with_reducible refine r_iaddN (pc := 51) dX6_rankOf_51 ?_ | refine r_iadd (pc := 51) dX6_rankOf_51 ?_
        refine r_st_n [_, _, _, _] (pc := 52) dX6_rankOf_52 (by decide) rfl rfl ?_
        first | refine r_inc [_, _, _, _] (pc := 53) dX6_rankOf_53 rfl (nI_inc _) (by decide) rfl rfl ?_ | refine r_inc [_, _, _, _] (pc := 53) dX6_rankOf_53 rfl rfl (by decide) rfl rfl ?_
        refine r_goto (tgt := 4) (pc := 56) dX6_rankOf_56 (by decide) ?_
        exact ih (j + 1, _) ⟨by omega, by subst hr; simp only [rankN, abv]; simp [*]⟩ (by omega)
      · refine r_iload_n (pc := 41) dX6_rankOf_41 rfl ?_
        refine r_iload_n (pc := 42) dX6_rankOf_42 rfl ?_
        refine r_icmp_ge (tgt := 50) (pc := 43) dX6_rankOf_43 (by decide) (fun h43 => ?_) (fun h43 => ?_)
        · have h43 : k ≤ j := (nI_leI (by omega) (by omega)).mp h43
          refine r_iconst (v := nI 0) (pc := 50) dX6_rankOf_50 (by decide) ?_
          first | with_reducible refine r_iaddN (pc := 51) dX6_rankOf_51 ?_ | refine r_iadd (pc := 51) dX6_rankOf_51 ?_
          refine r_st_n [_, _, _, _] (pc := 52) dX6_rankOf_52 (by decide) rfl rfl ?_
          first | refine r_inc [_, _, _, _] (pc := 53) dX6_rankOf_53 rfl (nI_inc _) (by decide) rfl rfl ?_ | refine r_inc [_, _, _, _] (pc := 53) dX6_rankOf_53 rfl rfl (by decide) rfl rfl ?_
          refine r_goto (tgt := 4) (pc := 56) dX6_rankOf_56 (by decide) ?_
          exact ih (j + 1, _) ⟨by omega, by subst hr; simp only [rankN, abv]; simp [*]⟩ (by omega)
        · have h43 : j < k := Nat.not_le.mp (fun z => h43 ((nI_leI (by omega) (by omega)).mpr z))
          refine r_iconst (v := nI 1) (pc := 46) dX6_rankOf_46 (by decide) ?_
          refine r_goto (tgt := 51) (pc := 47) dX6_rankOf_47 (by decide) ?_
          first | with_reducible refine r_iaddN (pc := 51) dX6_rankOf_51 ?_ | refine r_iadd (pc := 51) dX6_rankOf_51 ?_
          refine r_st_n [_, _, _, _] (pc := 52) dX6_rankOf_52 (by decide) rfl rfl ?_
          first | refine r_inc [_, _, _, _] (pc := 53) dX6_rankOf_53 rfl (nI_inc _) (by decide) rfl rfl ?_ | refine r_inc [_, _, _, _] (pc := 53) dX6_rankOf_53 rfl rfl (by decide) rfl rfl ?_
          refine r_goto (tgt := 4) (pc := 56) dX6_rankOf_56 (by decide) ?_
          exact ih (j + 1, _) ⟨by omega, by subst hr; simp only [rankN, abv]; simp [*]⟩ (by omega)
set_option maxHeartbeats 4000000 in
set_option maxRecDepth 100000 in
theorem c_X6_atRank (l : Launch) (G : Gx) (M : Mem) (x : Int32) (n : Nat) (hn : M 4 2 = nI n) (hn6 : n ≤ 6) : Con l G yX6_atRank cX6_atRank 4 (some .int) 3 66 [.ref (gA G 0), .int x] M (rI (atN (M 4) n x n) M) := by
  refine Con.ofV [some (.ref (gA G 0)), some (.int x), none, none] RX6 (by decide) rfl (Nat.le_of_ble_eq_true rfl) rfl ?_
  intro κ hl hG hk0 hn0
  subst hl hG
  have hcs : κ.k ≤ 0 ∧ κ.n ≤ 0 := ⟨Nat.le_of_eq hk0, Nat.le_of_eq hn0⟩
  refine r_ldc (pc := 0) dX6_atRank_0 lk_X6_149 ?_
  refine r_st_n [_, _, _, _] (pc := 2) dX6_atRank_2 (by decide) rfl rfl ?_
  refine r_iconst (v := nI 0) (pc := 3) dX6_atRank_3 (by decide) ?_
  refine r_st_n [_, _, _, _] (pc := 4) dX6_atRank_4 (by decide) rfl rfl ?_
  refine V.bk (loopV (fun (σ : Nat) => V κ cX6_atRank RX6 4 (some .int) (rmx 3 66) (QM κ (rI (atN (M 4) n x n) M)) M 5 [some (.ref (gA κ.G 0)), some (.int x), some (.int (atN (M 4) n x σ)), some (.int (nI σ))] []) (fun (σ : Nat) => σ ≤ n) (fun (σ : Nat) => n - σ) ?_ 0 (Nat.zero_le _)) rfl (by (repeat (first | exact wk_0 | refine wk_n ?_ | refine wk_s rfl ?_)); done)
  rintro j hj ih
  show V κ cX6_atRank RX6 4 (some .int) (rmx 3 66) (QM κ (rI (atN (M 4) n x n) M)) M 5 [some (.ref (gA κ.G 0)), some (.int x), some (.int (atN (M 4) n x j)), some (.int (nI j))] []
  refine r_iload_n (pc := 5) dX6_atRank_5 rfl ?_
  refine r_aload_n (pc := 6) dX6_atRank_6 rfl ?_
  refine gf_X6_19 (pc := 7) dX6_atRank_7 rfl ?_
  refine r_iconst (v := nI 2) (pc := 10) dX6_atRank_10 (by decide) ?_
  refine r_iald (pc := 11) dX6_atRank_11 rfl (show _ < 41 by omega) ?_
  refine r_is (nI n) hn ?_
  refine r_icmp_ge (tgt := 36) (pc := 12) dX6_atRank_12 (by decide) (fun h12 => ?_) (fun h12 => ?_)
  · have h12 : n ≤ j := (nI_leI (by omega) (by omega)).mp h12
    refine r_iload_n (pc := 36) dX6_atRank_36 rfl ?_
    exact r_iret (pc := 37) dX6_atRank_37 rfl ⟨by rw [show j = n by omega], rfl⟩
  · have h12 : j < n := Nat.not_le.mp (fun z => h12 ((nI_leI (by omega) (by omega)).mpr z))
    refine r_aload_n (pc := 15) dX6_atRank_15 rfl ?_
    refine r_iload_n (pc := 16) dX6_atRank_16 rfl ?_
    refine iv_X6_150 (c_X6_rankOf _ _ _ _ n (by omega) hn hn6) (pc := 17) dX6_atRank_17 rfl ⟨Nat.le_of_ble_eq_true rfl, Nat.le_of_ble_eq_true rfl⟩ (Nat.le_of_ble_eq_true rfl) hcs (kI ?_)
    refine r_iload_n (pc := 20) dX6_atRank_20 rfl ?_
    refine t_icmp_ne (tgt := 28) (J := 29) (a := ?pA21x1) (b := ?pB21x1) (pc := 21) dX6_atRank_21 (by decide) (fun k21x1 => ?pT21x1) (fun k21x1 => ?pF21x1) ?pK21x1
    case pT21x1 =>
      refine r_iload_n (pc := 28) dX6_atRank_28 rfl ?_
      exact k21x1
    case pF21x1 =>
      refine r_iload_n (pc := 24) dX6_atRank_24 rfl ?_
      refine r_goto (tgt := 29) (pc := 25) dX6_atRank_25 (by decide) ?_
      exact k21x1
    case pK21x1 =>
      refine r_st_n [_, _, _, _] (pc := 29) dX6_atRank_29 (by decide) rfl rfl ?_
      first | refine r_inc [_, _, _, _] (pc := 30) dX6_atRank_30 rfl (nI_inc _) (by decide) rfl rfl ?_ | refine r_inc [_, _, _, _] (pc := 30) dX6_atRank_30 rfl rfl (by decide) rfl rfl ?_
      refine r_goto (tgt := 5) (pc := 33) dX6_atRank_33 (by decide) ?_
      exact ih (j + 1) (by omega) (by omega)
