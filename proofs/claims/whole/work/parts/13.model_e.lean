theorem t01 {p : Prop} [Decidable p] {a b : Int32} : (if (if p then nI 1 else nI 0) = 0 then a else b) = if p then b else a := by
  by_cases h : p
  · rw [if_pos h, if_pos h, if_neg (by decide)]
  · rw [if_neg h, if_neg h, if_pos (by decide)]
theorem noteM_19 (M : Mem) {a : Nat} (h : a ≤ 24) : noteM M a 0 19 = nI (min 24 (a + 1)) := by
  unfold noteM
  split
  · rename_i e
    subst e
    rfl
  · show upd (M 0) 19 (nI (a + 1)) 19 = _
    rw [pk_us, Nat.min_eq_right (by omega)]
theorem noteM_0 (M : Mem) (a j : Nat) (h : j ≠ 19) : noteM M a 0 j = M 0 j := by
  unfold noteM
  split
  · show upd (upd (M 0) 19 _) 19 _ j = _
    rw [pk_un h, pk_un h]
  · show upd (M 0) 19 _ j = _
    rw [pk_un h]
/-- q nights done, each noted ahead -/
def ntM (M : Mem) (n a : Nat) : Nat → Mem
  | 0 => M
  | k + 1 => nightM (noteM (ntM M n a k) (min 24 (a + k))) n
theorem ntM_2 (M : Mem) (n a : Nat) : ∀ k, ntM M n a k 4 2 = M 4 2
  | 0 => rfl
  | k + 1 => by
    show nightM (noteM (ntM M n a k) _) n 4 2 = _
    rw [nightM_4, nightS_lo _ _ _ (by omega), noteM_4]
    exact ntM_2 M n a k
theorem nightM_19 (M : Mem) (n : Nat) : nightM M n 0 19 = M 0 19 := by
  show upd (M 0) 17 (cgtN (M 4) n n) 19 = _
  rw [pk_un (by decide)]
theorem ntM_19 (M : Mem) (n a : Nat) (ha : M 0 19 = nI a) (h : a ≤ 24) : ∀ k, ntM M n a k 0 19 = nI (min 24 (a + k))
  | 0 => by rw [ntM, ha, Nat.add_zero, Nat.min_eq_right h]
  | k + 1 => by
    show nightM (noteM (ntM M n a k) _) n 0 19 = _
    rw [nightM_19, noteM_19 _ (Nat.min_le_left _ _)]
    congr 1
    omega
def chgS (S : Nat → Int32) (k q : Nat) : Nat → Int32 := exchA (exchA (exchA S (17 + k) (17 + q)) (23 + k) (23 + q)) (35 + k) (35 + q)
theorem exchA_lo (g : Nat → Int32) {a b i : Nat} (h1 : i ≠ a) (h2 : i ≠ b) : exchA g a b i = g i := by
  unfold exchA
  rw [pk_un h2, pk_un h1]
def chairV (S : Nat → Int32) (n k w : Nat) : Int32 := if w = 0 then S (11 + k) else if w = 1 then S (29 + k) else if w = 2 then highS S k else if w = 3 then nI (rankN S k n) else if w = 4 then (if hasB (S 4) (nI k) then nI 1 else nI 0) else if w = 5 then S (17 + k) else if w = 6 then S (23 + k) else if w = 7 then tgtS S n k else S (35 + k)
def aheadV (S : Nat → Int32) (n k w : Nat) : Int32 := if w = 0 then highS S k else if w = 1 then nI (rankN S k n) else S (11 + k)
set_option maxHeartbeats 4000000 in
set_option maxRecDepth 100000 in
theorem c_X6_cushions (l : Launch) (G : Gx) (M : Mem) (x y : Int32) (n : Nat) (hn : M 4 2 = nI n) (hn6 : n ≤ 6) (a : Nat) (ha : M 0 19 = nI a) (ha24 : a ≤ 24) : Con l G yX6_cushions cX6_cushions 4 (some .int) 2 46 [.ref (gA G 0), .int x, .int y] M (fun v M' => (¬ (chG n x ∧ rgG 0 20 y) ∧ rI cBad M v M') ∨ (∃ k q, k < n ∧ q ≤ 20 ∧ x = nI k ∧ y = nI q ∧ rI (M 4 (29 + k)) (mset (noteM M a) 4 (29 + k) (nI q)) v M')) := by
  refine Con.ofV [some (.ref (gA G 0)), some (.int x), some (.int y), none] RX6 (by decide) rfl (Nat.le_of_ble_eq_true rfl) rfl ?_
  intro κ hl hG hk0 hn0
  subst hl hG
  have hcs : κ.k ≤ 0 ∧ κ.n ≤ 0 := ⟨Nat.le_of_eq hk0, Nat.le_of_eq hn0⟩
  generalize hPP : (fun v M' => (¬ (chG n x ∧ rgG 0 20 y) ∧ rI cBad M v M') ∨ (∃ k q, k < n ∧ q ≤ 20 ∧ x = nI k ∧ y = nI q ∧ rI (M 4 (29 + k)) (mset (noteM M a) 4 (29 + k) (nI q)) v M')) = PP
  refine r_aload_n (pc := 0) dX6_cushions_0 rfl ?_
  refine r_iload_n (pc := 1) dX6_cushions_1 rfl ?_
  refine iv_X6_178 (c_X6_isChair _ _ _ _) (pc := 2) dX6_cushions_2 rfl ⟨Nat.le_of_ble_eq_true rfl, Nat.le_of_ble_eq_true rfl⟩ (Nat.le_of_ble_eq_true rfl) hcs (kI ?_)
  refine r_ifeq_b (tgt := 20) (pc := 5) dX6_cushions_5 (by decide) (fun h5 => ?_) (fun h5 => ?_)
  · have g5 : ¬ chG n x := fun z => h5 (ch_mpr hn hn6 z)
    refine r_ldc (pc := 20) dX6_cushions_20 lk_X6_67 ?_
    exact r_iret (pc := 22) dX6_cushions_22 rfl (by subst hPP; exact (Or.inl ⟨by first | exact fun z => g5 z.1 | exact fun z => g17 z.2, rfl, rfl⟩))
  · obtain ⟨k, hk, rfl⟩ := ch_mp hn hn6 h5
    refine r_iload_n (pc := 8) dX6_cushions_8 rfl ?_
    refine r_i2l (pc := 9) dX6_cushions_9 ?_
    refine r_lconst (v := (nI 0).toInt64) (pc := 10) dX6_cushions_10 (by decide) ?_
    refine r_ldc2 (pc := 11) dX6_cushions_11 lk_X6_181 ?_
    refine iv_X6_57 (c_X6_inI _ _ _ _ _ _) (pc := 14) dX6_cushions_14 ⟨Nat.le_of_ble_eq_true rfl, Nat.le_of_ble_eq_true rfl⟩ (Nat.le_of_ble_eq_true rfl) hcs (kI ?_)
    refine r_ifne_b (tgt := 23) (pc := 17) dX6_cushions_17 (by decide) (fun h17 => ?_) (fun h17 => ?_)
    · obtain ⟨q, hqa, hqb, rfl⟩ := rg_mp (a := 0) (b := 20) h17 (by omega) (by omega)
      refine r_aload_n (pc := 23) dX6_cushions_23 rfl ?_
      refine iv_X6_172 (c_X6_note _ _ _ a ha ha24) (pc := 24) dX6_cushions_24 rfl ⟨Nat.le_of_ble_eq_true rfl, Nat.le_of_ble_eq_true rfl⟩ (Nat.le_of_ble_eq_true rfl) hcs (kV ?_)
      refine r_aload_n (pc := 27) dX6_cushions_27 rfl ?_
      refine gf_X6_19 (pc := 28) dX6_cushions_28 rfl ?_
      refine r_bipush (v := nI 29) (pc := 31) dX6_cushions_31 (by decide) ?_
      refine r_iload_n (pc := 33) dX6_cushions_33 rfl ?_
      first | with_reducible refine r_iaddN (pc := 34) dX6_cushions_34 ?_ | refine r_iadd (pc := 34) dX6_cushions_34 ?_
      refine r_iald (pc := 35) dX6_cushions_35 rfl (show _ < 41 by omega) ?_
      refine r_is (M 4 (29 + k)) (by rw [noteM_4]) ?_
      refine r_st_n [_, _, _, _] (pc := 36) dX6_cushions_36 (by decide) rfl rfl ?_
      refine r_aload_n (pc := 37) dX6_cushions_37 rfl ?_
      refine gf_X6_19 (pc := 38) dX6_cushions_38 rfl ?_
      refine r_bipush (v := nI 29) (pc := 41) dX6_cushions_41 (by decide) ?_
      refine r_iload_n (pc := 43) dX6_cushions_43 rfl ?_
      first | with_reducible refine r_iaddN (pc := 44) dX6_cushions_44 ?_ | refine r_iadd (pc := 44) dX6_cushions_44 ?_
      refine r_iload_n (pc := 45) dX6_cushions_45 rfl ?_
      refine r_iast (pc := 46) dX6_cushions_46 rfl (show _ < 41 by omega) ?_
      refine r_iload_n (pc := 47) dX6_cushions_47 rfl ?_
      exact r_iret (pc := 48) dX6_cushions_48 rfl (by subst hPP; exact (Or.inr ⟨k, q, hk, hqb, rfl, rfl, rfl, rfl⟩))
    · have g17 : ¬ rgG 0 20 y := fun z => h17 (rg_mpr z (by omega))
      refine r_ldc (pc := 20) dX6_cushions_20 lk_X6_67 ?_
      exact r_iret (pc := 22) dX6_cushions_22 rfl (by subst hPP; exact (Or.inl ⟨by first | exact fun z => g5 z.1 | exact fun z => g17 z.2, rfl, rfl⟩))
set_option maxHeartbeats 4000000 in
set_option maxRecDepth 100000 in
theorem c_X6_saw (l : Launch) (G : Gx) (M : Mem) (x y : Int32) (n : Nat) (hn : M 4 2 = nI n) (hn6 : n ≤ 6) (a : Nat) (ha : M 0 19 = nI a) (ha24 : a ≤ 24) : Con l G yX6_saw cX6_saw 4 (some .int) 2 46 [.ref (gA G 0), .int x, .int y] M (fun v M' => (¬ (chG n x ∧ rgG 0 9 y) ∧ rI cBad M v M') ∨ (∃ k q, k < n ∧ q ≤ 9 ∧ x = nI k ∧ y = nI q ∧ rI (M 4 (17 + k)) (mset (noteM M a) 4 (17 + k) (nI q)) v M')) := by
  refine Con.ofV [some (.ref (gA G 0)), some (.int x), some (.int y), none] RX6 (by decide) rfl (Nat.le_of_ble_eq_true rfl) rfl ?_
  intro κ hl hG hk0 hn0
  subst hl hG
  have hcs : κ.k ≤ 0 ∧ κ.n ≤ 0 := ⟨Nat.le_of_eq hk0, Nat.le_of_eq hn0⟩
  generalize hPP : (fun v M' => (¬ (chG n x ∧ rgG 0 9 y) ∧ rI cBad M v M') ∨ (∃ k q, k < n ∧ q ≤ 9 ∧ x = nI k ∧ y = nI q ∧ rI (M 4 (17 + k)) (mset (noteM M a) 4 (17 + k) (nI q)) v M')) = PP
  refine r_aload_n (pc := 0) dX6_saw_0 rfl ?_
  refine r_iload_n (pc := 1) dX6_saw_1 rfl ?_
  refine iv_X6_178 (c_X6_isChair _ _ _ _) (pc := 2) dX6_saw_2 rfl ⟨Nat.le_of_ble_eq_true rfl, Nat.le_of_ble_eq_true rfl⟩ (Nat.le_of_ble_eq_true rfl) hcs (kI ?_)
  refine r_ifeq_b (tgt := 20) (pc := 5) dX6_saw_5 (by decide) (fun h5 => ?_) (fun h5 => ?_)
  · have g5 : ¬ chG n x := fun z => h5 (ch_mpr hn hn6 z)
    refine r_ldc (pc := 20) dX6_saw_20 lk_X6_67 ?_
    exact r_iret (pc := 22) dX6_saw_22 rfl (by subst hPP; exact (Or.inl ⟨by first | exact fun z => g5 z.1 | exact fun z => g17 z.2, rfl, rfl⟩))
  · obtain ⟨k, hk, rfl⟩ := ch_mp hn hn6 h5
    refine r_iload_n (pc := 8) dX6_saw_8 rfl ?_
    refine r_i2l (pc := 9) dX6_saw_9 ?_
    refine r_lconst (v := (nI 0).toInt64) (pc := 10) dX6_saw_10 (by decide) ?_
    refine r_ldc2 (pc := 11) dX6_saw_11 lk_X6_194 ?_
    refine iv_X6_57 (c_X6_inI _ _ _ _ _ _) (pc := 14) dX6_saw_14 ⟨Nat.le_of_ble_eq_true rfl, Nat.le_of_ble_eq_true rfl⟩ (Nat.le_of_ble_eq_true rfl) hcs (kI ?_)
    refine r_ifne_b (tgt := 23) (pc := 17) dX6_saw_17 (by decide) (fun h17 => ?_) (fun h17 => ?_)
    · obtain ⟨q, hqa, hqb, rfl⟩ := rg_mp (a := 0) (b := 9) h17 (by omega) (by omega)
      refine r_aload_n (pc := 23) dX6_saw_23 rfl ?_
      refine iv_X6_172 (c_X6_note _ _ _ a ha ha24) (pc := 24) dX6_saw_24 rfl ⟨Nat.le_of_ble_eq_true rfl, Nat.le_of_ble_eq_true rfl⟩ (Nat.le_of_ble_eq_true rfl) hcs (kV ?_)
      refine r_aload_n (pc := 27) dX6_saw_27 rfl ?_
      refine gf_X6_19 (pc := 28) dX6_saw_28 rfl ?_
      refine r_bipush (v := nI 17) (pc := 31) dX6_saw_31 (by decide) ?_
      refine r_iload_n (pc := 33) dX6_saw_33 rfl ?_
      first | with_reducible refine r_iaddN (pc := 34) dX6_saw_34 ?_ | refine r_iadd (pc := 34) dX6_saw_34 ?_
      refine r_iald (pc := 35) dX6_saw_35 rfl (show _ < 41 by omega) ?_
      refine r_is (M 4 (17 + k)) (by rw [noteM_4]) ?_
      refine r_st_n [_, _, _, _] (pc := 36) dX6_saw_36 (by decide) rfl rfl ?_
      refine r_aload_n (pc := 37) dX6_saw_37 rfl ?_
      refine gf_X6_19 (pc := 38) dX6_saw_38 rfl ?_
      refine r_bipush (v := nI 17) (pc := 41) dX6_saw_41 (by decide) ?_
      refine r_iload_n (pc := 43) dX6_saw_43 rfl ?_
      first | with_reducible refine r_iaddN (pc := 44) dX6_saw_44 ?_ | refine r_iadd (pc := 44) dX6_saw_44 ?_
      refine r_iload_n (pc := 45) dX6_saw_45 rfl ?_
      refine r_iast (pc := 46) dX6_saw_46 rfl (show _ < 41 by omega) ?_
      refine r_iload_n (pc := 47) dX6_saw_47 rfl ?_
      exact r_iret (pc := 48) dX6_saw_48 rfl (by subst hPP; exact (Or.inr ⟨k, q, hk, hqb, rfl, rfl, rfl, rfl⟩))
    · have g17 : ¬ rgG 0 9 y := fun z => h17 (rg_mpr z (by omega))
      refine r_ldc (pc := 20) dX6_saw_20 lk_X6_67 ?_
      exact r_iret (pc := 22) dX6_saw_22 rfl (by subst hPP; exact (Or.inl ⟨by first | exact fun z => g5 z.1 | exact fun z => g17 z.2, rfl, rfl⟩))
set_option maxHeartbeats 4000000 in
set_option maxRecDepth 100000 in
theorem c_X6_mend (l : Launch) (G : Gx) (M : Mem) (x : Int32) (n : Nat) (hn : M 4 2 = nI n) (hn6 : n ≤ 6) (a : Nat) (ha : M 0 19 = nI a) (ha24 : a ≤ 24) : Con l G yX6_mend cX6_mend 2 (some .int) 2 46 [.ref (gA G 0), .int x] M (fun v M' => (¬ (chG n x) ∧ rI cBad M v M') ∨ (∃ k, k < n ∧ x = nI k ∧ ((M 4 (11 + k) = nI 60 ∧ rI cFull M v M') ∨ (¬ M 4 (11 + k) = nI 60 ∧ rI (glueV (M 4) k) (mset (noteM M a) 4 (11 + k) (glueV (M 4) k)) v M')))) := by
  refine Con.ofV [some (.ref (gA G 0)), some (.int x)] RX6 (by decide) rfl (Nat.le_of_ble_eq_true rfl) rfl ?_
  intro κ hl hG hk0 hn0
  subst hl hG
  have hcs : κ.k ≤ 0 ∧ κ.n ≤ 0 := ⟨Nat.le_of_eq hk0, Nat.le_of_eq hn0⟩
  generalize hPP : (fun v M' => (¬ (chG n x) ∧ rI cBad M v M') ∨ (∃ k, k < n ∧ x = nI k ∧ ((M 4 (11 + k) = nI 60 ∧ rI cFull M v M') ∨ (¬ M 4 (11 + k) = nI 60 ∧ rI (glueV (M 4) k) (mset (noteM M a) 4 (11 + k) (glueV (M 4) k)) v M')))) = PP
  refine r_aload_n (pc := 0) dX6_mend_0 rfl ?_
  refine r_iload_n (pc := 1) dX6_mend_1 rfl ?_
  refine iv_X6_178 (c_X6_isChair _ _ _ _) (pc := 2) dX6_mend_2 rfl ⟨Nat.le_of_ble_eq_true rfl, Nat.le_of_ble_eq_true rfl⟩ (Nat.le_of_ble_eq_true rfl) hcs (kI ?_)
  refine r_ifne_b (tgt := 11) (pc := 5) dX6_mend_5 (by decide) (fun h5 => ?_) (fun h5 => ?_)
  · obtain ⟨k, hk, rfl⟩ := ch_mp hn hn6 h5
    refine r_aload_n (pc := 11) dX6_mend_11 rfl ?_
    refine gf_X6_19 (pc := 12) dX6_mend_12 rfl ?_
    refine r_bipush (v := nI 11) (pc := 15) dX6_mend_15 (by decide) ?_
    refine r_iload_n (pc := 17) dX6_mend_17 rfl ?_
    first | with_reducible refine r_iaddN (pc := 18) dX6_mend_18 ?_ | refine r_iadd (pc := 18) dX6_mend_18 ?_
    refine r_iald (pc := 19) dX6_mend_19 rfl (show _ < 41 by omega) ?_
    refine r_bipush (v := nI 60) (pc := 20) dX6_mend_20 (by decide) ?_
    refine r_icmp_ne (tgt := 28) (pc := 22) dX6_mend_22 (by decide) (fun h22 => ?_) (fun h22 => ?_)
    · refine r_aload_n (pc := 28) dX6_mend_28 rfl ?_
      refine iv_X6_172 (c_X6_note _ _ _ a ha ha24) (pc := 29) dX6_mend_29 rfl ⟨Nat.le_of_ble_eq_true rfl, Nat.le_of_ble_eq_true rfl⟩ (Nat.le_of_ble_eq_true rfl) hcs (kV ?_)
      refine r_aload_n (pc := 32) dX6_mend_32 rfl ?_
      refine r_iload_n (pc := 33) dX6_mend_33 rfl ?_
      refine iv_X6_183 (c_X6_glue _ _ _ _ (by omega)) (pc := 34) dX6_mend_34 rfl ⟨Nat.le_of_ble_eq_true rfl, Nat.le_of_ble_eq_true rfl⟩ (Nat.le_of_ble_eq_true rfl) hcs (kV ?_)
      rw [noteM_4]
      refine r_aload_n (pc := 37) dX6_mend_37 rfl ?_
      refine gf_X6_19 (pc := 38) dX6_mend_38 rfl ?_
      refine r_bipush (v := nI 11) (pc := 41) dX6_mend_41 (by decide) ?_
      refine r_iload_n (pc := 43) dX6_mend_43 rfl ?_
      first | with_reducible refine r_iaddN (pc := 44) dX6_mend_44 ?_ | refine r_iadd (pc := 44) dX6_mend_44 ?_
      refine r_iald (pc := 45) dX6_mend_45 rfl (show _ < 41 by omega) ?_
      refine r_is (glueV (M 4) k) (pk_us (f := noteM M a 4)) ?_
      exact r_iret (pc := 46) dX6_mend_46 rfl (by subst hPP; exact (Or.inr ⟨k, hk, rfl, Or.inr ⟨h22, rfl, rfl⟩⟩))
    · refine r_ldc (pc := 25) dX6_mend_25 lk_X6_84 ?_
      exact r_iret (pc := 27) dX6_mend_27 rfl (by subst hPP; exact (Or.inr ⟨k, hk, rfl, Or.inl ⟨h22, rfl, rfl⟩⟩))
  · have g5 : ¬ chG n x := fun z => h5 (ch_mpr hn hn6 z)
    refine r_ldc (pc := 8) dX6_mend_8 lk_X6_67 ?_
    exact r_iret (pc := 10) dX6_mend_10 rfl (by subst hPP; exact (Or.inl ⟨by first | exact fun z => g5 z, rfl, rfl⟩))
set_option maxHeartbeats 4000000 in
set_option maxRecDepth 100000 in
theorem c_X6_watch (l : Launch) (G : Gx) (M : Mem) (x y : Int32) (w : Nat) (hw : M 4 4 = nI w) (hw64 : w < 64) (n : Nat) (hn : M 4 2 = nI n) (hn6 : n ≤ 6) (a : Nat) (ha : M 0 19 = nI a) (ha24 : a ≤ 24) : Con l G yX6_watch cX6_watch 3 (some .int) 2 46 [.ref (gA G 0), .int x, .int y] M (fun v M' => (¬ (chG n x ∧ rgG 0 1 y) ∧ rI cBad M v M') ∨ (∃ k q, k < n ∧ q ≤ 1 ∧ x = nI k ∧ y = nI q ∧ ((bI (hasB (M 4 4) (nI k)) = (if nI q = nI 1 then nI 1 else nI 0) ∧ rI cState M v M') ∨ (¬ bI (hasB (M 4 4) (nI k)) = (if nI q = nI 1 then nI 1 else nI 0) ∧ q = 1 ∧ M 4 0 ≤ nI (pop w) ∧ rI cFull M v M') ∨ (¬ bI (hasB (M 4 4) (nI k)) = (if nI q = nI 1 then nI 1 else nI 0) ∧ ¬ (q = 1 ∧ M 4 0 ≤ nI (pop w)) ∧ rI (M 4 4 ^^^ nI 1 <<< (nI k &&& 31)) (mset (noteM M a) 4 4 (M 4 4 ^^^ nI 1 <<< (nI k &&& 31))) v M')))) := by
  refine Con.ofV [some (.ref (gA G 0)), some (.int x), some (.int y)] RX6 (by decide) rfl (Nat.le_of_ble_eq_true rfl) rfl ?_
  intro κ hl hG hk0 hn0
  subst hl hG
  have hcs : κ.k ≤ 0 ∧ κ.n ≤ 0 := ⟨Nat.le_of_eq hk0, Nat.le_of_eq hn0⟩
  generalize hPP : (fun v M' => (¬ (chG n x ∧ rgG 0 1 y) ∧ rI cBad M v M') ∨ (∃ k q, k < n ∧ q ≤ 1 ∧ x = nI k ∧ y = nI q ∧ ((bI (hasB (M 4 4) (nI k)) = (if nI q = nI 1 then nI 1 else nI 0) ∧ rI cState M v M') ∨ (¬ bI (hasB (M 4 4) (nI k)) = (if nI q = nI 1 then nI 1 else nI 0) ∧ q = 1 ∧ M 4 0 ≤ nI (pop w) ∧ rI cFull M v M') ∨ (¬ bI (hasB (M 4 4) (nI k)) = (if nI q = nI 1 then nI 1 else nI 0) ∧ ¬ (q = 1 ∧ M 4 0 ≤ nI (pop w)) ∧ rI (M 4 4 ^^^ nI 1 <<< (nI k &&& 31)) (mset (noteM M a) 4 4 (M 4 4 ^^^ nI 1 <<< (nI k &&& 31))) v M')))) = PP
  refine r_aload_n (pc := 0) dX6_watch_0 rfl ?_
  refine r_iload_n (pc := 1) dX6_watch_1 rfl ?_
  refine iv_X6_178 (c_X6_isChair _ _ _ _) (pc := 2) dX6_watch_2 rfl ⟨Nat.le_of_ble_eq_true rfl, Nat.le_of_ble_eq_true rfl⟩ (Nat.le_of_ble_eq_true rfl) hcs (kI ?_)
  refine r_ifeq_b (tgt := 18) (pc := 5) dX6_watch_5 (by decide) (fun h5 => ?_) (fun h5 => ?_)
  · have g5 : ¬ chG n x := fun z => h5 (ch_mpr hn hn6 z)
    refine r_ldc (pc := 18) dX6_watch_18 lk_X6_67 ?_
    exact r_iret (pc := 20) dX6_watch_20 rfl (by subst hPP; exact (Or.inl ⟨by first | exact fun z => g5 z.1 | exact fun z => g15 z.2, rfl, rfl⟩))
  · obtain ⟨k, hk, rfl⟩ := ch_mp hn hn6 h5
    refine r_iload_n (pc := 8) dX6_watch_8 rfl ?_
    refine r_i2l (pc := 9) dX6_watch_9 ?_
    refine r_lconst (v := (nI 0).toInt64) (pc := 10) dX6_watch_10 (by decide) ?_
    refine r_lconst (v := (nI 1).toInt64) (pc := 11) dX6_watch_11 (by decide) ?_
    refine iv_X6_57 (c_X6_inI _ _ _ _ _ _) (pc := 12) dX6_watch_12 ⟨Nat.le_of_ble_eq_true rfl, Nat.le_of_ble_eq_true rfl⟩ (Nat.le_of_ble_eq_true rfl) hcs (kI ?_)
    refine r_ifne_b (tgt := 21) (pc := 15) dX6_watch_15 (by decide) (fun h15 => ?_) (fun h15 => ?_)
    · obtain ⟨q, hqa, hqb, rfl⟩ := rg_mp (a := 0) (b := 1) h15 (by omega) (by omega)
      refine r_aload_n (pc := 21) dX6_watch_21 rfl ?_
      refine gf_X6_19 (pc := 22) dX6_watch_22 rfl ?_
      refine r_iconst (v := nI 4) (pc := 25) dX6_watch_25 (by decide) ?_
      refine r_iald (pc := 26) dX6_watch_26 rfl (show _ < 41 by omega) ?_
      refine r_iload_n (pc := 27) dX6_watch_27 rfl ?_
      refine iv_X6_162 (c_X6_has _ _ _ _ _) (pc := 28) dX6_watch_28 ⟨Nat.le_of_ble_eq_true rfl, Nat.le_of_ble_eq_true rfl⟩ (Nat.le_of_ble_eq_true rfl) hcs (kI ?_)
      refine r_iload_n (pc := 31) dX6_watch_31 rfl ?_
      refine r_iconst (v := nI 1) (pc := 32) dX6_watch_32 (by decide) ?_
      refine t_icmp_ne (tgt := 40) (J := 41) (a := ?pA33x1) (b := ?pB33x1) (pc := 33) dX6_watch_33 (by decide) (fun k33x1 => ?pT33x1) (fun k33x1 => ?pF33x1) ?pK33x1
      case pT33x1 =>
        refine r_iconst (v := nI 0) (pc := 40) dX6_watch_40 (by decide) ?_
        exact k33x1
      case pF33x1 =>
        refine r_iconst (v := nI 1) (pc := 36) dX6_watch_36 (by decide) ?_
        refine r_goto (tgt := 41) (pc := 37) dX6_watch_37 (by decide) ?_
        exact k33x1
      case pK33x1 =>
        refine r_icmp_ne (tgt := 47) (pc := 41) dX6_watch_41 (by decide) (fun h41 => ?_) (fun h41 => ?_)
        · refine r_iload_n (pc := 47) dX6_watch_47 rfl ?_
          refine r_iconst (v := nI 1) (pc := 48) dX6_watch_48 (by decide) ?_
          refine r_icmp_ne (tgt := 73) (pc := 49) dX6_watch_49 (by decide) (fun h49 => ?_) (fun h49 => ?_)
          · have g49 : ¬ (q = 1 ∧ M 4 0 ≤ nI (pop w)) := fun z => h49 (by rw [z.1])
            refine r_aload_n (pc := 73) dX6_watch_73 rfl ?_
            refine iv_X6_172 (c_X6_note _ _ _ a ha ha24) (pc := 74) dX6_watch_74 rfl ⟨Nat.le_of_ble_eq_true rfl, Nat.le_of_ble_eq_true rfl⟩ (Nat.le_of_ble_eq_true rfl) hcs (kV ?_)
            refine r_aload_n (pc := 77) dX6_watch_77 rfl ?_
            refine gf_X6_19 (pc := 78) dX6_watch_78 rfl ?_
            refine r_iconst (v := nI 4) (pc := 81) dX6_watch_81 (by decide) ?_
            refine r_dup2 (pc := 82) dX6_watch_82 rfl rfl ?_
            refine r_iald (pc := 83) dX6_watch_83 rfl (show _ < 41 by omega) ?_
            refine r_is (M 4 4) (by rw [noteM_4]) ?_
            refine r_iconst (v := nI 1) (pc := 84) dX6_watch_84 (by decide) ?_
            refine r_iload_n (pc := 85) dX6_watch_85 rfl ?_
            refine r_ishl (pc := 86) dX6_watch_86 ?_
            refine r_ixor (pc := 87) dX6_watch_87 ?_
            refine r_iast (pc := 88) dX6_watch_88 rfl (show _ < 41 by omega) ?_
            refine r_aload_n (pc := 89) dX6_watch_89 rfl ?_
            refine gf_X6_19 (pc := 90) dX6_watch_90 rfl ?_
            refine r_iconst (v := nI 4) (pc := 93) dX6_watch_93 (by decide) ?_
            refine r_iald (pc := 94) dX6_watch_94 rfl (show _ < 41 by omega) ?_
            refine r_is (M 4 4 ^^^ nI 1 <<< (nI k &&& 31)) (by rw [mset_eq, pk_us]) ?_
            exact r_iret (pc := 95) dX6_watch_95 rfl (by subst hPP; exact (Or.inr ⟨k, q, hk, hqb, rfl, rfl, Or.inr (Or.inr ⟨h41, g49, rfl, rfl⟩)⟩))
          · have e49 : q = 1 := (nI_eq (by omega) (by omega)).mp h49
            refine r_aload_n (pc := 52) dX6_watch_52 rfl ?_
            refine gf_X6_19 (pc := 53) dX6_watch_53 rfl ?_
            refine r_iconst (v := nI 4) (pc := 56) dX6_watch_56 (by decide) ?_
            refine r_iald (pc := 57) dX6_watch_57 rfl (show _ < 41 by omega) ?_
            refine r_is (nI w) hw ?_
            refine iv_X6_187 (c_X6_ones _ _ _ _ (by omega)) (pc := 58) dX6_watch_58 ⟨Nat.le_of_ble_eq_true rfl, Nat.le_of_ble_eq_true rfl⟩ (Nat.le_of_ble_eq_true rfl) hcs (kI ?_)
            refine r_aload_n (pc := 61) dX6_watch_61 rfl ?_
            refine gf_X6_19 (pc := 62) dX6_watch_62 rfl ?_
            refine r_iconst (v := nI 0) (pc := 65) dX6_watch_65 (by decide) ?_
            refine r_iald (pc := 66) dX6_watch_66 rfl (show _ < 41 by omega) ?_
            refine r_icmp_lt (tgt := 73) (pc := 67) dX6_watch_67 (by decide) (fun h67 => ?_) (fun h67 => ?_)
            · have g49 : ¬ (q = 1 ∧ M 4 0 ≤ nI (pop w)) := fun z => absurd z.2 (Int32.not_le.mpr h67)
              refine r_aload_n (pc := 73) dX6_watch_73 rfl ?_
              refine iv_X6_172 (c_X6_note _ _ _ a ha ha24) (pc := 74) dX6_watch_74 rfl ⟨Nat.le_of_ble_eq_true rfl, Nat.le_of_ble_eq_true rfl⟩ (Nat.le_of_ble_eq_true rfl) hcs (kV ?_)
              refine r_aload_n (pc := 77) dX6_watch_77 rfl ?_
              refine gf_X6_19 (pc := 78) dX6_watch_78 rfl ?_
              refine r_iconst (v := nI 4) (pc := 81) dX6_watch_81 (by decide) ?_
              refine r_dup2 (pc := 82) dX6_watch_82 rfl rfl ?_
              refine r_iald (pc := 83) dX6_watch_83 rfl (show _ < 41 by omega) ?_
              refine r_is (M 4 4) (by rw [noteM_4]) ?_
              refine r_iconst (v := nI 1) (pc := 84) dX6_watch_84 (by decide) ?_
              refine r_iload_n (pc := 85) dX6_watch_85 rfl ?_
              refine r_ishl (pc := 86) dX6_watch_86 ?_
              refine r_ixor (pc := 87) dX6_watch_87 ?_
              refine r_iast (pc := 88) dX6_watch_88 rfl (show _ < 41 by omega) ?_
              refine r_aload_n (pc := 89) dX6_watch_89 rfl ?_
              refine gf_X6_19 (pc := 90) dX6_watch_90 rfl ?_
              refine r_iconst (v := nI 4) (pc := 93) dX6_watch_93 (by decide) ?_
              refine r_iald (pc := 94) dX6_watch_94 rfl (show _ < 41 by omega) ?_
              refine r_is (M 4 4 ^^^ nI 1 <<< (nI k &&& 31)) (by rw [mset_eq, pk_us]) ?_
              exact r_iret (pc := 95) dX6_watch_95 rfl (by subst hPP; exact (Or.inr ⟨k, q, hk, hqb, rfl, rfl, Or.inr (Or.inr ⟨h41, g49, rfl, rfl⟩)⟩))
            · have g67 := Int32.not_lt.mp h67
              refine r_ldc (pc := 70) dX6_watch_70 lk_X6_84 ?_
              exact r_iret (pc := 72) dX6_watch_72 rfl (by subst hPP; exact (Or.inr ⟨k, q, hk, hqb, rfl, rfl, Or.inr (Or.inl ⟨h41, e49, g67, rfl, rfl⟩)⟩))
        · refine r_ldc (pc := 44) dX6_watch_44 lk_X6_169 ?_
          exact r_iret (pc := 46) dX6_watch_46 rfl (by subst hPP; exact (Or.inr ⟨k, q, hk, hqb, rfl, rfl, Or.inl ⟨h41, rfl, rfl⟩⟩))
    · have g15 : ¬ rgG 0 1 y := fun z => h15 (rg_mpr z (by omega))
      refine r_ldc (pc := 18) dX6_watch_18 lk_X6_67 ?_
      exact r_iret (pc := 20) dX6_watch_20 rfl (by subst hPP; exact (Or.inl ⟨by first | exact fun z => g5 z.1 | exact fun z => g15 z.2, rfl, rfl⟩))
set_option maxHeartbeats 4000000 in
set_option maxRecDepth 100000 in
theorem c_X6_change (l : Launch) (G : Gx) (M : Mem) (x y : Int32) (n : Nat) (hn : M 4 2 = nI n) (hn6 : n ≤ 6) (a : Nat) (ha : M 0 19 = nI a) (ha24 : a ≤ 24) : Con l G yX6_change cX6_change 3 (some .int) 5 111 [.ref (gA G 0), .int x, .int y] M (fun v M' => (¬ (chG n x ∧ chG n y ∧ ¬ x = y) ∧ rI cBad M v M') ∨ (∃ k q, k < n ∧ q < n ∧ k ≠ q ∧ x = nI k ∧ y = nI q ∧ rI (tgtS (chgS (M 4) k q) n k) (setA (noteM M a) 4 (chgS (M 4) k q)) v M')) := by
  refine Con.ofV [some (.ref (gA G 0)), some (.int x), some (.int y)] RX6 (by decide) rfl (Nat.le_of_ble_eq_true rfl) rfl ?_
  intro κ hl hG hk0 hn0
  subst hl hG
  have hcs : κ.k ≤ 0 ∧ κ.n ≤ 0 := ⟨Nat.le_of_eq hk0, Nat.le_of_eq hn0⟩
  generalize hPP : (fun v M' => (¬ (chG n x ∧ chG n y ∧ ¬ x = y) ∧ rI cBad M v M') ∨ (∃ k q, k < n ∧ q < n ∧ k ≠ q ∧ x = nI k ∧ y = nI q ∧ rI (tgtS (chgS (M 4) k q) n k) (setA (noteM M a) 4 (chgS (M 4) k q)) v M')) = PP
  refine r_aload_n (pc := 0) dX6_change_0 rfl ?_
  refine r_iload_n (pc := 1) dX6_change_1 rfl ?_
  refine iv_X6_178 (c_X6_isChair _ _ _ _) (pc := 2) dX6_change_2 rfl ⟨Nat.le_of_ble_eq_true rfl, Nat.le_of_ble_eq_true rfl⟩ (Nat.le_of_ble_eq_true rfl) hcs (kI ?_)
  refine r_ifeq_b (tgt := 21) (pc := 5) dX6_change_5 (by decide) (fun h5 => ?_) (fun h5 => ?_)
  · have g5 : ¬ chG n x := fun z => h5 (ch_mpr hn hn6 z)
    refine r_ldc (pc := 21) dX6_change_21 lk_X6_67 ?_
    exact r_iret (pc := 23) dX6_change_23 rfl (by subst hPP; exact (Or.inl ⟨by first | exact fun z => g5 z.1 | exact fun z => g13 z.2.1 | exact fun z => z.2.2 h18, rfl, rfl⟩))
  · obtain ⟨k, hk, rfl⟩ := ch_mp hn hn6 h5
    refine r_aload_n (pc := 8) dX6_change_8 rfl ?_
    refine r_iload_n (pc := 9) dX6_change_9 rfl ?_
    refine iv_X6_178 (c_X6_isChair _ _ _ _) (pc := 10) dX6_change_10 rfl ⟨Nat.le_of_ble_eq_true rfl, Nat.le_of_ble_eq_true rfl⟩ (Nat.le_of_ble_eq_true rfl) hcs (kI ?_)
    refine r_ifeq_b (tgt := 21) (pc := 13) dX6_change_13 (by decide) (fun h13 => ?_) (fun h13 => ?_)
    · have g13 : ¬ chG n y := fun z => h13 (ch_mpr hn hn6 z)
      refine r_ldc (pc := 21) dX6_change_21 lk_X6_67 ?_
      exact r_iret (pc := 23) dX6_change_23 rfl (by subst hPP; exact (Or.inl ⟨by first | exact fun z => g5 z.1 | exact fun z => g13 z.2.1 | exact fun z => z.2.2 h18, rfl, rfl⟩))
    · obtain ⟨q, hq, rfl⟩ := ch_mp hn hn6 h13
      refine r_iload_n (pc := 16) dX6_change_16 rfl ?_
      refine r_iload_n (pc := 17) dX6_change_17 rfl ?_
      refine r_icmp_ne (tgt := 24) (pc := 18) dX6_change_18 (by decide) (fun h18 => ?_) (fun h18 => ?_)
      · have hkq : k ≠ q := fun z => h18 (by rw [z])
        refine r_aload_n (pc := 24) dX6_change_24 rfl ?_
        refine iv_X6_172 (c_X6_note _ _ _ a ha ha24) (pc := 25) dX6_change_25 rfl ⟨Nat.le_of_ble_eq_true rfl, Nat.le_of_ble_eq_true rfl⟩ (Nat.le_of_ble_eq_true rfl) hcs (kV ?_)
        refine r_aload_n (pc := 28) dX6_change_28 rfl ?_
        refine r_bipush (v := nI 17) (pc := 29) dX6_change_29 (by decide) ?_
        refine r_iload_n (pc := 31) dX6_change_31 rfl ?_
        refine r_iload_n (pc := 32) dX6_change_32 rfl ?_
        refine iv_X6_190 (c_X6_exchange _ _ _ _ _ _ (by omega) (by omega) (by omega)) (pc := 33) dX6_change_33 rfl ⟨Nat.le_of_ble_eq_true rfl, Nat.le_of_ble_eq_true rfl⟩ (Nat.le_of_ble_eq_true rfl) hcs (kV ?_)
        rw [noteM_4]
        refine r_aload_n (pc := 36) dX6_change_36 rfl ?_
        refine r_bipush (v := nI 23) (pc := 37) dX6_change_37 (by decide) ?_
        refine r_iload_n (pc := 39) dX6_change_39 rfl ?_
        refine r_iload_n (pc := 40) dX6_change_40 rfl ?_
        refine iv_X6_190 (c_X6_exchange _ _ _ _ _ _ (by omega) (by omega) (by omega)) (pc := 41) dX6_change_41 rfl ⟨Nat.le_of_ble_eq_true rfl, Nat.le_of_ble_eq_true rfl⟩ (Nat.le_of_ble_eq_true rfl) hcs (kV ?_)
        rw [setA_setA, setA_eq]
        refine r_aload_n (pc := 44) dX6_change_44 rfl ?_
        refine r_bipush (v := nI 35) (pc := 45) dX6_change_45 (by decide) ?_
        refine r_iload_n (pc := 47) dX6_change_47 rfl ?_
        refine r_iload_n (pc := 48) dX6_change_48 rfl ?_
        refine iv_X6_190 (c_X6_exchange _ _ _ _ _ _ (by omega) (by omega) (by omega)) (pc := 49) dX6_change_49 rfl ⟨Nat.le_of_ble_eq_true rfl, Nat.le_of_ble_eq_true rfl⟩ (Nat.le_of_ble_eq_true rfl) hcs (kV ?_)
        rw [setA_setA, setA_eq]
        refine r_aload_n (pc := 52) dX6_change_52 rfl ?_
        refine r_iload_n (pc := 53) dX6_change_53 rfl ?_
        refine iv_X6_159 (c_X6_targetOf _ _ _ _ n (by omega) (by rw [setA_eq, exchA_lo _ (by omega) (by omega), exchA_lo _ (by omega) (by omega), exchA_lo _ (by omega) (by omega)]; exact hn) hn6 (by omega)) (pc := 54) dX6_change_54 rfl ⟨Nat.le_of_ble_eq_true rfl, Nat.le_of_ble_eq_true rfl⟩ (Nat.le_of_ble_eq_true rfl) hcs (kI ?_)
        exact r_iret (pc := 57) dX6_change_57 rfl (by subst hPP; exact (Or.inr ⟨k, q, hk, hq, hkq, rfl, rfl, rfl, rfl⟩))
      · refine r_ldc (pc := 21) dX6_change_21 lk_X6_67 ?_
        exact r_iret (pc := 23) dX6_change_23 rfl (by subst hPP; exact (Or.inl ⟨by first | exact fun z => g5 z.1 | exact fun z => g13 z.2.1 | exact fun z => z.2.2 h18, rfl, rfl⟩))
set_option maxHeartbeats 4000000 in
set_option maxRecDepth 100000 in
theorem c_X6_chair (l : Launch) (G : Gx) (M : Mem) (x y : Int32) (n : Nat) (hn : M 4 2 = nI n) (hn6 : n ≤ 6) : Con l G yX6_chair cX6_chair 3 (some .int) 5 111 [.ref (gA G 0), .int x, .int y] M (fun v M' => (¬ (chG n x ∧ rgG 0 8 y) ∧ rI cBad M v M') ∨ (∃ k q, k < n ∧ q ≤ 8 ∧ x = nI k ∧ y = nI q ∧ rI (chairV (M 4) n k q) M v M')) := by
  refine Con.ofV [some (.ref (gA G 0)), some (.int x), some (.int y)] RX6 (by decide) rfl (Nat.le_of_ble_eq_true rfl) rfl ?_
  intro κ hl hG hk0 hn0
  subst hl hG
  have hcs : κ.k ≤ 0 ∧ κ.n ≤ 0 := ⟨Nat.le_of_eq hk0, Nat.le_of_eq hn0⟩
  generalize hPP : (fun v M' => (¬ (chG n x ∧ rgG 0 8 y) ∧ rI cBad M v M') ∨ (∃ k q, k < n ∧ q ≤ 8 ∧ x = nI k ∧ y = nI q ∧ rI (chairV (M 4) n k q) M v M')) = PP
  refine r_aload_n (pc := 0) dX6_chair_0 rfl ?_
  refine r_iload_n (pc := 1) dX6_chair_1 rfl ?_
  refine iv_X6_178 (c_X6_isChair _ _ _ _) (pc := 2) dX6_chair_2 rfl ⟨Nat.le_of_ble_eq_true rfl, Nat.le_of_ble_eq_true rfl⟩ (Nat.le_of_ble_eq_true rfl) hcs (kI ?_)
  refine r_ifne_b (tgt := 11) (pc := 5) dX6_chair_5 (by decide) (fun h5 => ?_) (fun h5 => ?_)
  · obtain ⟨k, hk, rfl⟩ := ch_mp hn hn6 h5
    refine r_iload_n (pc := 11) dX6_chair_11 rfl ?_
    refine r_tsw (lo := 0) (hi := 8) (tgt := 151) (pc := 12) dX6_chair_12 (by decide) (fun h12 => ?_) (fun q12 a12 b12 h12 => ?_)
    · have g12 : ¬ rgG 0 8 y := by rintro ⟨q, h1, h2, h3⟩; exact h12 q h1 h2 (by omega) h3
      refine r_ldc (pc := 151) dX6_chair_151 lk_X6_67 ?_
      exact r_iret (pc := 153) dX6_chair_153 rfl (by subst hPP; exact (Or.inl ⟨by first | exact fun z => g12 z.2, rfl, rfl⟩))
    · rcases (show q12 = 0 ∨ q12 = 1 ∨ q12 = 2 ∨ q12 = 3 ∨ q12 = 4 ∨ q12 = 5 ∨ q12 = 6 ∨ q12 = 7 ∨ q12 = 8 by omega) with rfl | rfl | rfl | rfl | rfl | rfl | rfl | rfl | rfl
      · refine r_tableIn (off := 52) (tgt := 64) (pc := 12) dX6_chair_12 (by decide) (by decide) rfl (by decide) ?_
        refine r_aload_n (pc := 64) dX6_chair_64 rfl ?_
        refine gf_X6_19 (pc := 65) dX6_chair_65 rfl ?_
        refine r_bipush (v := nI 11) (pc := 68) dX6_chair_68 (by decide) ?_
        refine r_iload_n (pc := 70) dX6_chair_70 rfl ?_
        first | with_reducible refine r_iaddN (pc := 71) dX6_chair_71 ?_ | refine r_iadd (pc := 71) dX6_chair_71 ?_
        refine r_iald (pc := 72) dX6_chair_72 rfl (show _ < 41 by omega) ?_
        exact r_iret (pc := 73) dX6_chair_73 rfl (by subst hPP; exact (Or.inr ⟨k, 0, hk, by omega, rfl, h12, rfl, rfl⟩))
      · refine r_tableIn (off := 62) (tgt := 74) (pc := 12) dX6_chair_12 (by decide) (by decide) rfl (by decide) ?_
        refine r_aload_n (pc := 74) dX6_chair_74 rfl ?_
        refine gf_X6_19 (pc := 75) dX6_chair_75 rfl ?_
        refine r_bipush (v := nI 29) (pc := 78) dX6_chair_78 (by decide) ?_
        refine r_iload_n (pc := 80) dX6_chair_80 rfl ?_
        first | with_reducible refine r_iaddN (pc := 81) dX6_chair_81 ?_ | refine r_iadd (pc := 81) dX6_chair_81 ?_
        refine r_iald (pc := 82) dX6_chair_82 rfl (show _ < 41 by omega) ?_
        exact r_iret (pc := 83) dX6_chair_83 rfl (by subst hPP; exact (Or.inr ⟨k, 1, hk, by omega, rfl, h12, rfl, rfl⟩))
      · refine r_tableIn (off := 72) (tgt := 84) (pc := 12) dX6_chair_12 (by decide) (by decide) rfl (by decide) ?_
        refine r_aload_n (pc := 84) dX6_chair_84 rfl ?_
        refine r_iload_n (pc := 85) dX6_chair_85 rfl ?_
        refine iv_X6_146 (c_X6_highOf _ _ _ _ (by omega)) (pc := 86) dX6_chair_86 rfl ⟨Nat.le_of_ble_eq_true rfl, Nat.le_of_ble_eq_true rfl⟩ (Nat.le_of_ble_eq_true rfl) hcs (kI ?_)
        exact r_iret (pc := 89) dX6_chair_89 rfl (by subst hPP; exact (Or.inr ⟨k, 2, hk, by omega, rfl, h12, rfl, rfl⟩))
      · refine r_tableIn (off := 78) (tgt := 90) (pc := 12) dX6_chair_12 (by decide) (by decide) rfl (by decide) ?_
        refine r_aload_n (pc := 90) dX6_chair_90 rfl ?_
        refine r_iload_n (pc := 91) dX6_chair_91 rfl ?_
        refine iv_X6_150 (c_X6_rankOf _ _ _ _ n (by omega) hn hn6) (pc := 92) dX6_chair_92 rfl ⟨Nat.le_of_ble_eq_true rfl, Nat.le_of_ble_eq_true rfl⟩ (Nat.le_of_ble_eq_true rfl) hcs (kI ?_)
        exact r_iret (pc := 95) dX6_chair_95 rfl (by subst hPP; exact (Or.inr ⟨k, 3, hk, by omega, rfl, h12, rfl, rfl⟩))
      · refine r_tableIn (off := 84) (tgt := 96) (pc := 12) dX6_chair_12 (by decide) (by decide) rfl (by decide) ?_
        refine r_aload_n (pc := 96) dX6_chair_96 rfl ?_
        refine gf_X6_19 (pc := 97) dX6_chair_97 rfl ?_
        refine r_iconst (v := nI 4) (pc := 100) dX6_chair_100 (by decide) ?_
        refine r_iald (pc := 101) dX6_chair_101 rfl (show _ < 41 by omega) ?_
        refine r_iload_n (pc := 102) dX6_chair_102 rfl ?_
        refine iv_X6_162 (c_X6_has _ _ _ _ _) (pc := 103) dX6_chair_103 ⟨Nat.le_of_ble_eq_true rfl, Nat.le_of_ble_eq_true rfl⟩ (Nat.le_of_ble_eq_true rfl) hcs (kI ?_)
        refine t_ifeq_b (tgt := 113) (J := 114) (a := ?pA106x1) (b := ?pB106x1) (pc := 106) dX6_chair_106 (by decide) (fun k106x1 => ?pT106x1) (fun k106x1 => ?pF106x1) ?pK106x1
        case pT106x1 =>
          refine r_iconst (v := nI 0) (pc := 113) dX6_chair_113 (by decide) ?_
          exact k106x1
        case pF106x1 =>
          refine r_iconst (v := nI 1) (pc := 109) dX6_chair_109 (by decide) ?_
          refine r_goto (tgt := 114) (pc := 110) dX6_chair_110 (by decide) ?_
          exact k106x1
        case pK106x1 =>
          exact r_iret (pc := 114) dX6_chair_114 rfl (by subst hPP; exact (Or.inr ⟨k, 4, hk, by omega, rfl, h12, rfl, rfl⟩))
      · refine r_tableIn (off := 103) (tgt := 115) (pc := 12) dX6_chair_12 (by decide) (by decide) rfl (by decide) ?_
        refine r_aload_n (pc := 115) dX6_chair_115 rfl ?_
        refine gf_X6_19 (pc := 116) dX6_chair_116 rfl ?_
        refine r_bipush (v := nI 17) (pc := 119) dX6_chair_119 (by decide) ?_
        refine r_iload_n (pc := 121) dX6_chair_121 rfl ?_
        first | with_reducible refine r_iaddN (pc := 122) dX6_chair_122 ?_ | refine r_iadd (pc := 122) dX6_chair_122 ?_
        refine r_iald (pc := 123) dX6_chair_123 rfl (show _ < 41 by omega) ?_
        exact r_iret (pc := 124) dX6_chair_124 rfl (by subst hPP; exact (Or.inr ⟨k, 5, hk, by omega, rfl, h12, rfl, rfl⟩))
      · refine r_tableIn (off := 113) (tgt := 125) (pc := 12) dX6_chair_12 (by decide) (by decide) rfl (by decide) ?_
        refine r_aload_n (pc := 125) dX6_chair_125 rfl ?_
        refine gf_X6_19 (pc := 126) dX6_chair_126 rfl ?_
        refine r_bipush (v := nI 23) (pc := 129) dX6_chair_129 (by decide) ?_
        refine r_iload_n (pc := 131) dX6_chair_131 rfl ?_
        first | with_reducible refine r_iaddN (pc := 132) dX6_chair_132 ?_ | refine r_iadd (pc := 132) dX6_chair_132 ?_
        refine r_iald (pc := 133) dX6_chair_133 rfl (show _ < 41 by omega) ?_
        exact r_iret (pc := 134) dX6_chair_134 rfl (by subst hPP; exact (Or.inr ⟨k, 6, hk, by omega, rfl, h12, rfl, rfl⟩))
      · refine r_tableIn (off := 123) (tgt := 135) (pc := 12) dX6_chair_12 (by decide) (by decide) rfl (by decide) ?_
        refine r_aload_n (pc := 135) dX6_chair_135 rfl ?_
        refine r_iload_n (pc := 136) dX6_chair_136 rfl ?_
        refine iv_X6_159 (c_X6_targetOf _ _ _ _ n (by omega) hn hn6 (by omega)) (pc := 137) dX6_chair_137 rfl ⟨Nat.le_of_ble_eq_true rfl, Nat.le_of_ble_eq_true rfl⟩ (Nat.le_of_ble_eq_true rfl) hcs (kI ?_)
        exact r_iret (pc := 140) dX6_chair_140 rfl (by subst hPP; exact (Or.inr ⟨k, 7, hk, by omega, rfl, h12, rfl, rfl⟩))
      · refine r_tableIn (off := 129) (tgt := 141) (pc := 12) dX6_chair_12 (by decide) (by decide) rfl (by decide) ?_
        refine r_aload_n (pc := 141) dX6_chair_141 rfl ?_
        refine gf_X6_19 (pc := 142) dX6_chair_142 rfl ?_
        refine r_bipush (v := nI 35) (pc := 145) dX6_chair_145 (by decide) ?_
        refine r_iload_n (pc := 147) dX6_chair_147 rfl ?_
        first | with_reducible refine r_iaddN (pc := 148) dX6_chair_148 ?_ | refine r_iadd (pc := 148) dX6_chair_148 ?_
        refine r_iald (pc := 149) dX6_chair_149 rfl (show _ < 41 by omega) ?_
        exact r_iret (pc := 150) dX6_chair_150 rfl (by subst hPP; exact (Or.inr ⟨k, 8, hk, by omega, rfl, h12, rfl, rfl⟩))
  · have g5 : ¬ chG n x := fun z => h5 (ch_mpr hn hn6 z)
    refine r_ldc (pc := 8) dX6_chair_8 lk_X6_67 ?_
    exact r_iret (pc := 10) dX6_chair_10 rfl (by subst hPP; exact (Or.inl ⟨by first | exact fun z => g5 z.1, rfl, rfl⟩))
set_option maxHeartbeats 4000000 in
set_option maxRecDepth 100000 in
theorem c_X6_ranked (l : Launch) (G : Gx) (M : Mem) (x : Int32) (n : Nat) (hn : M 4 2 = nI n) (hn6 : n ≤ 6) : Con l G yX6_ranked cX6_ranked 2 (some .int) 4 89 [.ref (gA G 0), .int x] M (fun v M' => (¬ (chG n x) ∧ rI cBad M v M') ∨ (∃ k, k < n ∧ x = nI k ∧ rI (atN (M 4) n (nI k) n) M v M')) := by
  refine Con.ofV [some (.ref (gA G 0)), some (.int x)] RX6 (by decide) rfl (Nat.le_of_ble_eq_true rfl) rfl ?_
  intro κ hl hG hk0 hn0
  subst hl hG
  have hcs : κ.k ≤ 0 ∧ κ.n ≤ 0 := ⟨Nat.le_of_eq hk0, Nat.le_of_eq hn0⟩
  generalize hPP : (fun v M' => (¬ (chG n x) ∧ rI cBad M v M') ∨ (∃ k, k < n ∧ x = nI k ∧ rI (atN (M 4) n (nI k) n) M v M')) = PP
  refine r_iload_n (pc := 0) dX6_ranked_0 rfl ?_
  refine r_i2l (pc := 1) dX6_ranked_1 ?_
  refine r_lconst (v := (nI 0).toInt64) (pc := 2) dX6_ranked_2 (by decide) ?_
  refine r_aload_n (pc := 3) dX6_ranked_3 rfl ?_
  refine gf_X6_19 (pc := 4) dX6_ranked_4 rfl ?_
  refine r_iconst (v := nI 2) (pc := 7) dX6_ranked_7 (by decide) ?_
  refine r_iald (pc := 8) dX6_ranked_8 rfl (show _ < 41 by omega) ?_
  refine r_iconst (v := nI 1) (pc := 9) dX6_ranked_9 (by decide) ?_
  first | (with_reducible refine r_isubN (pc := 10) dX6_ranked_10 ?hle ?_; case hle => omega) | refine r_isub (pc := 10) dX6_ranked_10 ?_
  refine r_i2l (pc := 11) dX6_ranked_11 ?_
  refine iv_X6_57 (c_X6_inI _ _ _ _ _ _) (pc := 12) dX6_ranked_12 ⟨Nat.le_of_ble_eq_true rfl, Nat.le_of_ble_eq_true rfl⟩ (Nat.le_of_ble_eq_true rfl) hcs (kI ?_)
  refine r_ifeq_b (tgt := 26) (pc := 15) dX6_ranked_15 (by decide) (fun h15 => ?_) (fun h15 => ?_)
  · have g15 : ¬ chG n x := fun z => h15 (ch_mpr hn hn6 z)
    refine r_ldc (pc := 26) dX6_ranked_26 lk_X6_67 ?_
    exact r_iret (pc := 28) dX6_ranked_28 rfl (by subst hPP; exact (by first | exact Or.inr ⟨k, hk, rfl, rfl, rfl⟩ | exact Or.inl ⟨g15, rfl, rfl⟩))
  · obtain ⟨k, hk, rfl⟩ := ch_mp hn hn6 h15
    refine r_aload_n (pc := 18) dX6_ranked_18 rfl ?_
    refine r_iload_n (pc := 19) dX6_ranked_19 rfl ?_
    refine iv_X6_153 (c_X6_atRank _ _ _ _ n hn hn6) (pc := 20) dX6_ranked_20 rfl ⟨Nat.le_of_ble_eq_true rfl, Nat.le_of_ble_eq_true rfl⟩ (Nat.le_of_ble_eq_true rfl) hcs (kI ?_)
    refine r_goto (tgt := 28) (pc := 23) dX6_ranked_23 (by decide) ?_
    exact r_iret (pc := 28) dX6_ranked_28 rfl (by subst hPP; exact (by first | exact Or.inr ⟨k, hk, rfl, rfl, rfl⟩ | exact Or.inl ⟨g15, rfl, rfl⟩))
set_option maxHeartbeats 4000000 in
set_option maxRecDepth 100000 in
theorem c_X6_nights (l : Launch) (G : Gx) (M : Mem) (x : Int32) (n : Nat) (hn : M 4 2 = nI n) (hn6 : n ≤ 6) (ht : M 0 4 = 0 ↔ n = 0) (a : Nat) (ha : M 0 19 = nI a) (ha24 : a ≤ 24) : Con l G yX6_nights cX6_nights 3 (some .int) 6 134 [.ref (gA G 0), .int x] M (fun v M' => (n = 0 ∧ rI cState M v M') ∨ (0 < n ∧ ¬ rgG 1 24 x ∧ rI cBad M v M') ∨ (0 < n ∧ ∃ q, 1 ≤ q ∧ q ≤ 24 ∧ x = nI q ∧ ((¬ M 4 3 + nI q ≤ nI 999 ∧ rI cFull M v M') ∨ (M 4 3 + nI q ≤ nI 999 ∧ rI (atN (ntM M n a q 4) n (nI 0) n) (ntM M n a q) v M')))) := by
  refine Con.ofV [some (.ref (gA G 0)), some (.int x), none] RX6 (by decide) rfl (Nat.le_of_ble_eq_true rfl) rfl ?_
  intro κ hl hG hk0 hn0
  subst hl hG
  have hcs : κ.k ≤ 0 ∧ κ.n ≤ 0 := ⟨Nat.le_of_eq hk0, Nat.le_of_eq hn0⟩
  generalize hPP : (fun v M' => (n = 0 ∧ rI cState M v M') ∨ (0 < n ∧ ¬ rgG 1 24 x ∧ rI cBad M v M') ∨ (0 < n ∧ ∃ q, 1 ≤ q ∧ q ≤ 24 ∧ x = nI q ∧ ((¬ M 4 3 + nI q ≤ nI 999 ∧ rI cFull M v M') ∨ (M 4 3 + nI q ≤ nI 999 ∧ rI (atN (ntM M n a q 4) n (nI 0) n) (ntM M n a q) v M')))) = PP
  refine r_aload_n (pc := 0) dX6_nights_0 rfl ?_
  refine gf_X6_135 (pc := 1) dX6_nights_1 rfl ?_
  refine r_if_ne (tgt := 10) (pc := 4) dX6_nights_4 (by decide) (fun h4 => ?_) (fun h4 => ?_)
  · have hn1 : 0 < n := Nat.pos_of_ne_zero (fun z => h4 (ht.mpr z))
    refine r_iload_n (pc := 10) dX6_nights_10 rfl ?_
    refine r_i2l (pc := 11) dX6_nights_11 ?_
    refine r_lconst (v := (nI 1).toInt64) (pc := 12) dX6_nights_12 (by decide) ?_
    refine r_ldc2 (pc := 13) dX6_nights_13 lk_X6_170 ?_
    refine iv_X6_57 (c_X6_inI _ _ _ _ _ _) (pc := 16) dX6_nights_16 ⟨Nat.le_of_ble_eq_true rfl, Nat.le_of_ble_eq_true rfl⟩ (Nat.le_of_ble_eq_true rfl) hcs (kI ?_)
    refine r_ifne_b (tgt := 25) (pc := 19) dX6_nights_19 (by decide) (fun h19 => ?_) (fun h19 => ?_)
    · obtain ⟨q, hqa, hqb, rfl⟩ := rg_mp (a := 1) (b := 24) h19 (by omega) (by omega)
      refine r_aload_n (pc := 25) dX6_nights_25 rfl ?_
      refine gf_X6_19 (pc := 26) dX6_nights_26 rfl ?_
      refine r_iconst (v := nI 3) (pc := 29) dX6_nights_29 (by decide) ?_
      refine r_iald (pc := 30) dX6_nights_30 rfl (show _ < 41 by omega) ?_
      refine r_iload_n (pc := 31) dX6_nights_31 rfl ?_
      first | with_reducible refine r_iaddN (pc := 32) dX6_nights_32 ?_ | refine r_iadd (pc := 32) dX6_nights_32 ?_
      refine r_sipush (v := nI 999) (pc := 33) dX6_nights_33 (by decide) ?_
      refine r_icmp_le (tgt := 42) (pc := 36) dX6_nights_36 (by decide) (fun h36 => ?_) (fun h36 => ?_)
      · refine r_iconst (v := nI 0) (pc := 42) dX6_nights_42 (by decide) ?_
        refine r_st_n [_, _, _] (pc := 43) dX6_nights_43 (by decide) rfl rfl ?_
        refine V.bk (loopV (fun (σ : Nat) => V κ cX6_nights RX6 3 (some .int) (rmx 6 134) (QM κ PP) (ntM M n a σ) 44 [some (.ref (gA κ.G 0)), some (.int (nI q)), some (.int (nI σ))] []) (fun (σ : Nat) => σ ≤ q) (fun (σ : Nat) => q - σ) ?_ 0 (Nat.zero_le _)) rfl (by (repeat (first | exact wk_0 | refine wk_n ?_ | refine wk_s rfl ?_)); done)
        rintro j hj ih
        show V κ cX6_nights RX6 3 (some .int) (rmx 6 134) (QM κ PP) (ntM M n a j) 44 [some (.ref (gA κ.G 0)), some (.int (nI q)), some (.int (nI j))] []
        refine r_iload_n (pc := 44) dX6_nights_44 rfl ?_
        refine r_iload_n (pc := 45) dX6_nights_45 rfl ?_
        refine r_icmp_ge (tgt := 63) (pc := 46) dX6_nights_46 (by decide) (fun h46 => ?_) (fun h46 => ?_)
        · have h46 : q ≤ j := (nI_leI (by omega) (by omega)).mp h46
          obtain rfl : q = j := by omega
          refine r_aload_n (pc := 63) dX6_nights_63 rfl ?_
          refine r_iconst (v := nI 0) (pc := 64) dX6_nights_64 (by decide) ?_
          refine iv_X6_153 (c_X6_atRank _ _ _ _ n ((ntM_2 M n a q).trans hn) hn6) (pc := 65) dX6_nights_65 rfl ⟨Nat.le_of_ble_eq_true rfl, Nat.le_of_ble_eq_true rfl⟩ (Nat.le_of_ble_eq_true rfl) hcs (kI ?_)
          exact r_iret (pc := 68) dX6_nights_68 rfl (by subst hPP; exact (Or.inr (Or.inr ⟨hn1, q, hqa, hqb, rfl, Or.inr ⟨h36, rfl, rfl⟩⟩)))
        · have h46 : j < q := Nat.not_le.mp (fun z => h46 ((nI_leI (by omega) (by omega)).mpr z))
          refine r_aload_n (pc := 49) dX6_nights_49 rfl ?_
          refine iv_X6_172 (c_X6_note _ _ _ (min 24 (a + j)) (ntM_19 M n a ha ha24 j) (Nat.min_le_left _ _)) (pc := 50) dX6_nights_50 rfl ⟨Nat.le_of_ble_eq_true rfl, Nat.le_of_ble_eq_true rfl⟩ (Nat.le_of_ble_eq_true rfl) hcs (kV ?_)
          refine r_aload_n (pc := 53) dX6_nights_53 rfl ?_
          refine iv_X6_175 ((c_X6_oneNight _ _ _ n (by rw [noteM_4]; exact (ntM_2 M n a j).trans hn) hn6 hn1).imp (fun _ _ h => (⟨h.1, h.2⟩ : qV (fun N => N = nightM _ n) _ _))) (pc := 54) dX6_nights_54 rfl ⟨Nat.le_of_ble_eq_true rfl, Nat.le_of_ble_eq_true rfl⟩ (Nat.le_of_ble_eq_true rfl) hcs (kqV (fun N54 r54 => ?_))
          subst r54
          first | refine r_inc [_, _, _] (pc := 57) dX6_nights_57 rfl (nI_inc _) (by decide) rfl rfl ?_ | refine r_inc [_, _, _] (pc := 57) dX6_nights_57 rfl rfl (by decide) rfl rfl ?_
          refine r_goto (tgt := 44) (pc := 60) dX6_nights_60 (by decide) ?_
          exact ih (j + 1) (by omega) (by omega)
      · refine r_ldc (pc := 39) dX6_nights_39 lk_X6_84 ?_
        exact r_iret (pc := 41) dX6_nights_41 rfl (by subst hPP; exact (Or.inr (Or.inr ⟨hn1, q, hqa, hqb, rfl, Or.inl ⟨h36, rfl, rfl⟩⟩)))
    · have g19 : ¬ rgG 1 24 x := fun z => h19 (rg_mpr z (by omega))
      refine r_ldc (pc := 22) dX6_nights_22 lk_X6_67 ?_
      exact r_iret (pc := 24) dX6_nights_24 rfl (by subst hPP; exact (Or.inr (Or.inl ⟨hn1, g19, rfl, rfl⟩)))
  · have g4 : n = 0 := ht.mp h4
    refine r_ldc (pc := 7) dX6_nights_7 lk_X6_169 ?_
    exact r_iret (pc := 9) dX6_nights_9 rfl (by subst hPP; exact (Or.inl ⟨g4, rfl, rfl⟩))
