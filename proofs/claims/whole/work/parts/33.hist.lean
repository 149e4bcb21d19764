/-- a row of cells holds what the ministry at o holds -/
def cel (M : Mem) (o : Nat) (A : Nat → Int32) : Prop := A 0 = M o 0 ∧ A 1 = M o 1 ∧ A 2 = M o 2 ∧ A 3 = M o 3 ∧ A 4 = M o 4 ∧ ∀ c, c < 6 → A (5 + c) = M (o + 1) c ∧ A (11 + c) = M (o + 2) c ∧ A (17 + c) = M (o + 3) c ∧ A (23 + c) = M (o + 4) c ∧ A (29 + c) = M (o + 5) c ∧ A (35 + c) = M (o + 6) c
/-- a row of cells holds S -/
def cs (n : Nat) (S A : Nat → Int32) : Prop := A 0 = nI n ∧ A 1 = S 0 ∧ A 2 = S 1 ∧ A 3 = S 3 ∧ A 4 = S 4 ∧ ∀ c, c < n → A (5 + c) = S (5 + c) ∧ A (11 + c) = S (11 + c) ∧ A (17 + c) = S (29 + c) ∧ A (23 + c) = S (17 + c) ∧ A (29 + c) = S (23 + c) ∧ A (35 + c) = S (35 + c)
theorem cel_cs {M : Mem} {o n : Nat} {A S : Nat → Int32} (h : cel M o A) (g : ms o n S M) (hn : n ≤ 6) : cs n S A := by
  obtain ⟨a0, a1, a2, a3, a4, ac⟩ := h
  obtain ⟨b0, b1, b2, b3, b4, bc⟩ := g
  refine ⟨a0.trans b0, a1.trans b1, a2.trans b2, a3.trans b3, a4.trans b4, fun c hc => ?_⟩
  obtain ⟨x1, x2, x3, x4, x5, x6⟩ := ac c (by omega)
  obtain ⟨y1, y2, y3, y4, y5, y6⟩ := bc c hc
  exact ⟨x1.trans y1, x2.trans y2, x3.trans y3, x4.trans y4, x5.trans y5, x6.trans y6⟩
theorem cel_ms {M : Mem} {o n : Nat} {A S : Nat → Int32} (h : cel M o A) (g : cs n S A) (hn : n ≤ 6) : ms o n S M := by
  obtain ⟨a0, a1, a2, a3, a4, ac⟩ := h
  obtain ⟨b0, b1, b2, b3, b4, bc⟩ := g
  refine ⟨a0.symm.trans b0, a1.symm.trans b1, a2.symm.trans b2, a3.symm.trans b3, a4.symm.trans b4, fun c hc => ?_⟩
  obtain ⟨x1, x2, x3, x4, x5, x6⟩ := ac c (by omega)
  obtain ⟨y1, y2, y3, y4, y5, y6⟩ := bc c hc
  exact ⟨x1.symm.trans y1, x2.symm.trans y2, x3.symm.trans y3, x4.symm.trans y4, x5.symm.trans y5, x6.symm.trans y6⟩
def WA (M : Mem) (o : Nat) (A : Nat → Int32) : Nat → Int32 := va_cpy (M (o + 6)) (va_cpy (M (o + 5)) (va_cpy (M (o + 4)) (va_cpy (M (o + 3)) (va_cpy (M (o + 2)) (va_cpy (M (o + 1)) (upd (upd (upd (upd (upd A 0 (M o 0)) 1 (M o 1)) 2 (M o 2)) 3 (M o 3)) 4 (M o 4)) 0 5 6) 0 11 6) 0 17 6) 0 23 6) 0 29 6) 0 35 6
theorem cpy_in {f g : Nat → Int32} {sp dp n k : Nat} (h1 : dp ≤ k) (h2 : k < dp + n) : va_cpy f g sp dp n k = f (sp + (k - dp)) := if_pos ⟨h1, h2⟩
theorem cpy_out {f g : Nat → Int32} {sp dp n k : Nat} (h : k < dp ∨ dp + n ≤ k) : va_cpy f g sp dp n k = g k := if_neg (by omega)
theorem WA_cel (M : Mem) (o : Nat) (A : Nat → Int32) : cel M o (WA M o A) := by
  refine ⟨rfl, rfl, rfl, rfl, rfl, fun c hc => ⟨?_, ?_, ?_, ?_, ?_, ?_⟩⟩
  · unfold WA
    rw [cpy_out (by omega), cpy_out (by omega), cpy_out (by omega), cpy_out (by omega), cpy_out (by omega), cpy_in (by omega) (by omega)]
    congr 1; omega
  · unfold WA
    rw [cpy_out (by omega), cpy_out (by omega), cpy_out (by omega), cpy_out (by omega), cpy_in (by omega) (by omega)]
    congr 1; omega
  · unfold WA
    rw [cpy_out (by omega), cpy_out (by omega), cpy_out (by omega), cpy_in (by omega) (by omega)]
    congr 1; omega
  · unfold WA
    rw [cpy_out (by omega), cpy_out (by omega), cpy_in (by omega) (by omega)]
    congr 1; omega
  · unfold WA
    rw [cpy_out (by omega), cpy_in (by omega) (by omega)]
    congr 1; omega
  · unfold WA
    rw [cpy_in (by omega) (by omega)]
    congr 1; omega
def RA (M : Mem) (o : Nat) (A : Nat → Int32) : Mem := setA (setA (setA (setA (setA (setA (setA M o (upd (upd (upd (upd (upd (M o) 0 (A 0)) 1 (A 1)) 2 (A 2)) 3 (A 3)) 4 (A 4))) (o + 1) (va_cpy A (M (o + 1)) 5 0 6)) (o + 2) (va_cpy A (M (o + 2)) 11 0 6)) (o + 3) (va_cpy A (M (o + 3)) 17 0 6)) (o + 4) (va_cpy A (M (o + 4)) 23 0 6)) (o + 5) (va_cpy A (M (o + 5)) 29 0 6)) (o + 6) (va_cpy A (M (o + 6)) 35 0 6)
theorem RA_fr (M : Mem) (o : Nat) (A : Nat → Int32) {q : Nat} (h : q < o ∨ o + 6 < q) : RA M o A q = M q := by
  unfold RA
  rw [setA_ne _ _ (by omega), setA_ne _ _ (by omega), setA_ne _ _ (by omega), setA_ne _ _ (by omega), setA_ne _ _ (by omega), setA_ne _ _ (by omega), setA_ne _ _ (by omega)]
theorem RA_cel (M : Mem) (o : Nat) (A : Nat → Int32) : cel (RA M o A) o A := by
  have h0 : RA M o A o = upd (upd (upd (upd (upd (M o) 0 (A 0)) 1 (A 1)) 2 (A 2)) 3 (A 3)) 4 (A 4) := by
    unfold RA
    rw [setA_ne _ _ (by omega), setA_ne _ _ (by omega), setA_ne _ _ (by omega), setA_ne _ _ (by omega), setA_ne _ _ (by omega), setA_ne _ _ (by omega), setA_eq]
  have h1 : RA M o A (o + 1) = va_cpy A (M (o + 1)) 5 0 6 := by
    unfold RA
    rw [setA_ne _ _ (by omega), setA_ne _ _ (by omega), setA_ne _ _ (by omega), setA_ne _ _ (by omega), setA_ne _ _ (by omega), setA_eq]
  have h2 : RA M o A (o + 2) = va_cpy A (M (o + 2)) 11 0 6 := by
    unfold RA
    rw [setA_ne _ _ (by omega), setA_ne _ _ (by omega), setA_ne _ _ (by omega), setA_ne _ _ (by omega), setA_eq]
  have h3 : RA M o A (o + 3) = va_cpy A (M (o + 3)) 17 0 6 := by
    unfold RA
    rw [setA_ne _ _ (by omega), setA_ne _ _ (by omega), setA_ne _ _ (by omega), setA_eq]
  have h4 : RA M o A (o + 4) = va_cpy A (M (o + 4)) 23 0 6 := by
    unfold RA
    rw [setA_ne _ _ (by omega), setA_ne _ _ (by omega), setA_eq]
  have h5 : RA M o A (o + 5) = va_cpy A (M (o + 5)) 29 0 6 := by
    unfold RA
    rw [setA_ne _ _ (by omega), setA_eq]
  have h6 : RA M o A (o + 6) = va_cpy A (M (o + 6)) 35 0 6 := by
    unfold RA
    rw [setA_eq]
  refine ⟨by rw [h0]; rfl, by rw [h0]; rfl, by rw [h0]; rfl, by rw [h0]; rfl, by rw [h0]; rfl, fun c hc => ?_⟩
  rw [h1, h2, h3, h4, h5, h6, cpy_in (by omega) (by omega), cpy_in (by omega) (by omega), cpy_in (by omega) (by omega), cpy_in (by omega) (by omega), cpy_in (by omega) (by omega), cpy_in (by omega) (by omega)]
  exact ⟨rfl, rfl, rfl, rfl, rfl, rfl⟩
set_option maxHeartbeats 4000000 in
set_option maxRecDepth 100000 in
theorem c_X2_writeTo_18 (l : Launch) (G : Gx) (M : Mem) (e : Nat) (he : isIA e = true) (hle : lenA e = 41) (hne : e < 18 ∨ 27 < e) : Con l G yX2_writeTo cX2_writeTo 2 none 1 60 [.ref (gA G 18), .ref (gA G e)] M (rV (setA M e (WA M 18 (M e)))) := by
  refine Con.ofV [some (.ref (gA G 18)), some (.ref (gA G e))] RX2 (by decide) rfl (Nat.le_of_ble_eq_true rfl) rfl ?_
  intro κ hl hG hk0 hn0
  subst hl hG
  have hcs : κ.k ≤ 0 ∧ κ.n ≤ 0 := ⟨Nat.le_of_eq hk0, Nat.le_of_eq hn0⟩
  have q0 : ∀ (N : Mem) (g : Nat → Int32), setA N e g 18 = N 18 := fun N g => setA_ne _ _ (by omega)
  have q1 : ∀ (N : Mem) (g : Nat → Int32), setA N e g 19 = N 19 := fun N g => setA_ne _ _ (by omega)
  have q2 : ∀ (N : Mem) (g : Nat → Int32), setA N e g 20 = N 20 := fun N g => setA_ne _ _ (by omega)
  have q3 : ∀ (N : Mem) (g : Nat → Int32), setA N e g 21 = N 21 := fun N g => setA_ne _ _ (by omega)
  have q4 : ∀ (N : Mem) (g : Nat → Int32), setA N e g 22 = N 22 := fun N g => setA_ne _ _ (by omega)
  have q5 : ∀ (N : Mem) (g : Nat → Int32), setA N e g 23 = N 23 := fun N g => setA_ne _ _ (by omega)
  have q6 : ∀ (N : Mem) (g : Nat → Int32), setA N e g 24 = N 24 := fun N g => setA_ne _ _ (by omega)
  refine r_aload_n (pc := 0) dX2_writeTo_0 rfl ?_
  refine r_iconst (v := nI 0) (pc := 1) dX2_writeTo_1 (by decide) ?_
  refine r_aload_n (pc := 2) dX2_writeTo_2 rfl ?_
  refine gf_X2_39 (pc := 3) dX2_writeTo_3 rfl ?_
  refine r_iast (pc := 6) dX2_writeTo_6 he (by rw [hle]; omega) ?_
  refine r_aload_n (pc := 7) dX2_writeTo_7 rfl ?_
  refine r_iconst (v := nI 1) (pc := 8) dX2_writeTo_8 (by decide) ?_
  refine r_aload_n (pc := 9) dX2_writeTo_9 rfl ?_
  refine gf_X2_49 (pc := 10) dX2_writeTo_10 rfl ?_
  refine r_iast (pc := 13) dX2_writeTo_13 he (by rw [hle]; omega) ?_
  refine r_aload_n (pc := 14) dX2_writeTo_14 rfl ?_
  refine r_iconst (v := nI 2) (pc := 15) dX2_writeTo_15 (by decide) ?_
  refine r_aload_n (pc := 16) dX2_writeTo_16 rfl ?_
  refine gf_X2_52 (pc := 17) dX2_writeTo_17 rfl ?_
  refine r_iast (pc := 20) dX2_writeTo_20 he (by rw [hle]; omega) ?_
  refine r_aload_n (pc := 21) dX2_writeTo_21 rfl ?_
  refine r_iconst (v := nI 3) (pc := 22) dX2_writeTo_22 (by decide) ?_
  refine r_aload_n (pc := 23) dX2_writeTo_23 rfl ?_
  refine gf_X2_43 (pc := 24) dX2_writeTo_24 rfl ?_
  refine r_iast (pc := 27) dX2_writeTo_27 he (by rw [hle]; omega) ?_
  refine r_aload_n (pc := 28) dX2_writeTo_28 rfl ?_
  refine r_iconst (v := nI 4) (pc := 29) dX2_writeTo_29 (by decide) ?_
  refine r_aload_n (pc := 30) dX2_writeTo_30 rfl ?_
  refine gf_X2_46 (pc := 31) dX2_writeTo_31 rfl ?_
  refine r_iast (pc := 34) dX2_writeTo_34 he (by rw [hle]; omega) ?_
  refine r_aload_n (pc := 35) dX2_writeTo_35 rfl ?_
  refine gf_X2_9 (pc := 36) dX2_writeTo_36 rfl ?_
  refine r_iconst (v := nI 0) (pc := 39) dX2_writeTo_39 (by decide) ?_
  refine r_aload_n (pc := 40) dX2_writeTo_40 rfl ?_
  refine r_iconst (v := nI 5) (pc := 41) dX2_writeTo_41 (by decide) ?_
  refine r_bipush (v := nI 6) (pc := 42) dX2_writeTo_42 (by decide) ?_
  refine r_acopy (pc := 44) (a := 19) (b := e) (x := 0) (y := 5) (n := 6) dX2_writeTo_44 wl_X2_55 w_acN w_acS w_SysI rfl he (Nat.le_of_ble_eq_true rfl) (by rw [hle]; omega) (Nat.le_of_ble_eq_true rfl) (Nat.le_of_ble_eq_true rfl) ?_
  refine r_aload_n (pc := 47) dX2_writeTo_47 rfl ?_
  refine gf_X2_15 (pc := 48) dX2_writeTo_48 rfl ?_
  refine r_iconst (v := nI 0) (pc := 51) dX2_writeTo_51 (by decide) ?_
  refine r_aload_n (pc := 52) dX2_writeTo_52 rfl ?_
  refine r_bipush (v := nI 11) (pc := 53) dX2_writeTo_53 (by decide) ?_
  refine r_bipush (v := nI 6) (pc := 55) dX2_writeTo_55 (by decide) ?_
  refine r_acopy (pc := 57) (a := 20) (b := e) (x := 0) (y := 11) (n := 6) dX2_writeTo_57 wl_X2_55 w_acN w_acS w_SysI rfl he (Nat.le_of_ble_eq_true rfl) (by rw [hle]; omega) (Nat.le_of_ble_eq_true rfl) (Nat.le_of_ble_eq_true rfl) ?_
  refine r_aload_n (pc := 60) dX2_writeTo_60 rfl ?_
  refine gf_X2_18 (pc := 61) dX2_writeTo_61 rfl ?_
  refine r_iconst (v := nI 0) (pc := 64) dX2_writeTo_64 (by decide) ?_
  refine r_aload_n (pc := 65) dX2_writeTo_65 rfl ?_
  refine r_bipush (v := nI 17) (pc := 66) dX2_writeTo_66 (by decide) ?_
  refine r_bipush (v := nI 6) (pc := 68) dX2_writeTo_68 (by decide) ?_
  refine r_acopy (pc := 70) (a := 21) (b := e) (x := 0) (y := 17) (n := 6) dX2_writeTo_70 wl_X2_55 w_acN w_acS w_SysI rfl he (Nat.le_of_ble_eq_true rfl) (by rw [hle]; omega) (Nat.le_of_ble_eq_true rfl) (Nat.le_of_ble_eq_true rfl) ?_
  refine r_aload_n (pc := 73) dX2_writeTo_73 rfl ?_
  refine gf_X2_21 (pc := 74) dX2_writeTo_74 rfl ?_
  refine r_iconst (v := nI 0) (pc := 77) dX2_writeTo_77 (by decide) ?_
  refine r_aload_n (pc := 78) dX2_writeTo_78 rfl ?_
  refine r_bipush (v := nI 23) (pc := 79) dX2_writeTo_79 (by decide) ?_
  refine r_bipush (v := nI 6) (pc := 81) dX2_writeTo_81 (by decide) ?_
  refine r_acopy (pc := 83) (a := 22) (b := e) (x := 0) (y := 23) (n := 6) dX2_writeTo_83 wl_X2_55 w_acN w_acS w_SysI rfl he (Nat.le_of_ble_eq_true rfl) (by rw [hle]; omega) (Nat.le_of_ble_eq_true rfl) (Nat.le_of_ble_eq_true rfl) ?_
  refine r_aload_n (pc := 86) dX2_writeTo_86 rfl ?_
  refine gf_X2_24 (pc := 87) dX2_writeTo_87 rfl ?_
  refine r_iconst (v := nI 0) (pc := 90) dX2_writeTo_90 (by decide) ?_
  refine r_aload_n (pc := 91) dX2_writeTo_91 rfl ?_
  refine r_bipush (v := nI 29) (pc := 92) dX2_writeTo_92 (by decide) ?_
  refine r_bipush (v := nI 6) (pc := 94) dX2_writeTo_94 (by decide) ?_
  refine r_acopy (pc := 96) (a := 23) (b := e) (x := 0) (y := 29) (n := 6) dX2_writeTo_96 wl_X2_55 w_acN w_acS w_SysI rfl he (Nat.le_of_ble_eq_true rfl) (by rw [hle]; omega) (Nat.le_of_ble_eq_true rfl) (Nat.le_of_ble_eq_true rfl) ?_
  refine r_aload_n (pc := 99) dX2_writeTo_99 rfl ?_
  refine gf_X2_27 (pc := 100) dX2_writeTo_100 rfl ?_
  refine r_iconst (v := nI 0) (pc := 103) dX2_writeTo_103 (by decide) ?_
  refine r_aload_n (pc := 104) dX2_writeTo_104 rfl ?_
  refine r_bipush (v := nI 35) (pc := 105) dX2_writeTo_105 (by decide) ?_
  refine r_bipush (v := nI 6) (pc := 107) dX2_writeTo_107 (by decide) ?_
  refine r_acopy (pc := 109) (a := 24) (b := e) (x := 0) (y := 35) (n := 6) dX2_writeTo_109 wl_X2_55 w_acN w_acS w_SysI rfl he (Nat.le_of_ble_eq_true rfl) (by rw [hle]; omega) (Nat.le_of_ble_eq_true rfl) (Nat.le_of_ble_eq_true rfl) ?_
  refine V.mem (M' := setA M e (WA M 18 (M e))) (by unfold WA; simp only [mset, setA_setA, setA_eq, q0, q1, q2, q3, q4, q5, q6]) ?_
  exact r_vret (pc := 112) dX2_writeTo_112 rfl ⟨rfl, rfl⟩
set_option maxHeartbeats 4000000 in
set_option maxRecDepth 100000 in
theorem c_X2_readFrom_18 (l : Launch) (G : Gx) (M : Mem) (e : Nat) (he : isIA e = true) (hle : lenA e = 41) (hne : e < 18 ∨ 27 < e) : Con l G yX2_readFrom cX2_readFrom 2 none 1 60 [.ref (gA G 18), .ref (gA G e)] M (rV (RA M 18 (M e))) := by
  refine Con.ofV [some (.ref (gA G 18)), some (.ref (gA G e))] RX2 (by decide) rfl (Nat.le_of_ble_eq_true rfl) rfl ?_
  intro κ hl hG hk0 hn0
  subst hl hG
  have hcs : κ.k ≤ 0 ∧ κ.n ≤ 0 := ⟨Nat.le_of_eq hk0, Nat.le_of_eq hn0⟩
  have q0 : ∀ (N : Mem) (g : Nat → Int32), setA N 18 g e = N e := fun N g => setA_ne _ _ (by omega)
  have q1 : ∀ (N : Mem) (g : Nat → Int32), setA N 19 g e = N e := fun N g => setA_ne _ _ (by omega)
  have q2 : ∀ (N : Mem) (g : Nat → Int32), setA N 20 g e = N e := fun N g => setA_ne _ _ (by omega)
  have q3 : ∀ (N : Mem) (g : Nat → Int32), setA N 21 g e = N e := fun N g => setA_ne _ _ (by omega)
  have q4 : ∀ (N : Mem) (g : Nat → Int32), setA N 22 g e = N e := fun N g => setA_ne _ _ (by omega)
  have q5 : ∀ (N : Mem) (g : Nat → Int32), setA N 23 g e = N e := fun N g => setA_ne _ _ (by omega)
  have q6 : ∀ (N : Mem) (g : Nat → Int32), setA N 24 g e = N e := fun N g => setA_ne _ _ (by omega)
  refine r_aload_n (pc := 0) dX2_readFrom_0 rfl ?_
  refine r_aload_n (pc := 1) dX2_readFrom_1 rfl ?_
  refine r_iconst (v := nI 0) (pc := 2) dX2_readFrom_2 (by decide) ?_
  refine r_iald (pc := 3) dX2_readFrom_3 he (by rw [hle]; omega) ?_
  refine pf_X2_39 (pc := 4) dX2_readFrom_4 rfl ?_
  refine r_aload_n (pc := 7) dX2_readFrom_7 rfl ?_
  refine r_aload_n (pc := 8) dX2_readFrom_8 rfl ?_
  refine r_iconst (v := nI 1) (pc := 9) dX2_readFrom_9 (by decide) ?_
  refine r_iald (pc := 10) dX2_readFrom_10 he (by rw [hle]; omega) ?_
  refine pf_X2_49 (pc := 11) dX2_readFrom_11 rfl ?_
  refine r_aload_n (pc := 14) dX2_readFrom_14 rfl ?_
  refine r_aload_n (pc := 15) dX2_readFrom_15 rfl ?_
  refine r_iconst (v := nI 2) (pc := 16) dX2_readFrom_16 (by decide) ?_
  refine r_iald (pc := 17) dX2_readFrom_17 he (by rw [hle]; omega) ?_
  refine pf_X2_52 (pc := 18) dX2_readFrom_18 rfl ?_
  refine r_aload_n (pc := 21) dX2_readFrom_21 rfl ?_
  refine r_aload_n (pc := 22) dX2_readFrom_22 rfl ?_
  refine r_iconst (v := nI 3) (pc := 23) dX2_readFrom_23 (by decide) ?_
  refine r_iald (pc := 24) dX2_readFrom_24 he (by rw [hle]; omega) ?_
  refine pf_X2_43 (pc := 25) dX2_readFrom_25 rfl ?_
  refine r_aload_n (pc := 28) dX2_readFrom_28 rfl ?_
  refine r_aload_n (pc := 29) dX2_readFrom_29 rfl ?_
  refine r_iconst (v := nI 4) (pc := 30) dX2_readFrom_30 (by decide) ?_
  refine r_iald (pc := 31) dX2_readFrom_31 he (by rw [hle]; omega) ?_
  refine pf_X2_46 (pc := 32) dX2_readFrom_32 rfl ?_
  refine r_aload_n (pc := 35) dX2_readFrom_35 rfl ?_
  refine r_iconst (v := nI 5) (pc := 36) dX2_readFrom_36 (by decide) ?_
  refine r_aload_n (pc := 37) dX2_readFrom_37 rfl ?_
  refine gf_X2_9 (pc := 38) dX2_readFrom_38 rfl ?_
  refine r_iconst (v := nI 0) (pc := 41) dX2_readFrom_41 (by decide) ?_
  refine r_bipush (v := nI 6) (pc := 42) dX2_readFrom_42 (by decide) ?_
  refine r_acopy (pc := 44) (a := e) (b := 19) (x := 5) (y := 0) (n := 6) dX2_readFrom_44 wl_X2_55 w_acN w_acS w_SysI he rfl (by rw [hle]; omega) (Nat.le_of_ble_eq_true rfl) (Nat.le_of_ble_eq_true rfl) (Nat.le_of_ble_eq_true rfl) ?_
  refine r_aload_n (pc := 47) dX2_readFrom_47 rfl ?_
  refine r_bipush (v := nI 11) (pc := 48) dX2_readFrom_48 (by decide) ?_
  refine r_aload_n (pc := 50) dX2_readFrom_50 rfl ?_
  refine gf_X2_15 (pc := 51) dX2_readFrom_51 rfl ?_
  refine r_iconst (v := nI 0) (pc := 54) dX2_readFrom_54 (by decide) ?_
  refine r_bipush (v := nI 6) (pc := 55) dX2_readFrom_55 (by decide) ?_
  refine r_acopy (pc := 57) (a := e) (b := 20) (x := 11) (y := 0) (n := 6) dX2_readFrom_57 wl_X2_55 w_acN w_acS w_SysI he rfl (by rw [hle]; omega) (Nat.le_of_ble_eq_true rfl) (Nat.le_of_ble_eq_true rfl) (Nat.le_of_ble_eq_true rfl) ?_
  refine r_aload_n (pc := 60) dX2_readFrom_60 rfl ?_
  refine r_bipush (v := nI 17) (pc := 61) dX2_readFrom_61 (by decide) ?_
  refine r_aload_n (pc := 63) dX2_readFrom_63 rfl ?_
  refine gf_X2_18 (pc := 64) dX2_readFrom_64 rfl ?_
  refine r_iconst (v := nI 0) (pc := 67) dX2_readFrom_67 (by decide) ?_
  refine r_bipush (v := nI 6) (pc := 68) dX2_readFrom_68 (by decide) ?_
  refine r_acopy (pc := 70) (a := e) (b := 21) (x := 17) (y := 0) (n := 6) dX2_readFrom_70 wl_X2_55 w_acN w_acS w_SysI he rfl (by rw [hle]; omega) (Nat.le_of_ble_eq_true rfl) (Nat.le_of_ble_eq_true rfl) (Nat.le_of_ble_eq_true rfl) ?_
  refine r_aload_n (pc := 73) dX2_readFrom_73 rfl ?_
  refine r_bipush (v := nI 23) (pc := 74) dX2_readFrom_74 (by decide) ?_
  refine r_aload_n (pc := 76) dX2_readFrom_76 rfl ?_
  refine gf_X2_21 (pc := 77) dX2_readFrom_77 rfl ?_
  refine r_iconst (v := nI 0) (pc := 80) dX2_readFrom_80 (by decide) ?_
  refine r_bipush (v := nI 6) (pc := 81) dX2_readFrom_81 (by decide) ?_
  refine r_acopy (pc := 83) (a := e) (b := 22) (x := 23) (y := 0) (n := 6) dX2_readFrom_83 wl_X2_55 w_acN w_acS w_SysI he rfl (by rw [hle]; omega) (Nat.le_of_ble_eq_true rfl) (Nat.le_of_ble_eq_true rfl) (Nat.le_of_ble_eq_true rfl) ?_
  refine r_aload_n (pc := 86) dX2_readFrom_86 rfl ?_
  refine r_bipush (v := nI 29) (pc := 87) dX2_readFrom_87 (by decide) ?_
  refine r_aload_n (pc := 89) dX2_readFrom_89 rfl ?_
  refine gf_X2_24 (pc := 90) dX2_readFrom_90 rfl ?_
  refine r_iconst (v := nI 0) (pc := 93) dX2_readFrom_93 (by decide) ?_
  refine r_bipush (v := nI 6) (pc := 94) dX2_readFrom_94 (by decide) ?_
  refine r_acopy (pc := 96) (a := e) (b := 23) (x := 29) (y := 0) (n := 6) dX2_readFrom_96 wl_X2_55 w_acN w_acS w_SysI he rfl (by rw [hle]; omega) (Nat.le_of_ble_eq_true rfl) (Nat.le_of_ble_eq_true rfl) (Nat.le_of_ble_eq_true rfl) ?_
  refine r_aload_n (pc := 99) dX2_readFrom_99 rfl ?_
  refine r_bipush (v := nI 35) (pc := 100) dX2_readFrom_100 (by decide) ?_
  refine r_aload_n (pc := 102) dX2_readFrom_102 rfl ?_
  refine gf_X2_27 (pc := 103) dX2_readFrom_103 rfl ?_
  refine r_iconst (v := nI 0) (pc := 106) dX2_readFrom_106 (by decide) ?_
  refine r_bipush (v := nI 6) (pc := 107) dX2_readFrom_107 (by decide) ?_
  refine r_acopy (pc := 109) (a := e) (b := 24) (x := 35) (y := 0) (n := 6) dX2_readFrom_109 wl_X2_55 w_acN w_acS w_SysI he rfl (by rw [hle]; omega) (Nat.le_of_ble_eq_true rfl) (Nat.le_of_ble_eq_true rfl) (Nat.le_of_ble_eq_true rfl) ?_
  refine V.mem (M' := RA M 18 (M e)) (by simp only [mset, setA_setA, setA_eq, q0, q1, q2, q3, q4, q5, q6]; rfl) ?_
  exact r_vret (pc := 112) dX2_readFrom_112 rfl ⟨rfl, rfl⟩
set_option maxHeartbeats 4000000 in
set_option maxRecDepth 100000 in
theorem c_X2_writeTo_28 (l : Launch) (G : Gx) (M : Mem) (e : Nat) (he : isIA e = true) (hle : lenA e = 41) (hne : e < 28 ∨ 37 < e) : Con l G yX2_writeTo cX2_writeTo 2 none 1 60 [.ref (gA G 28), .ref (gA G e)] M (rV (setA M e (WA M 28 (M e)))) := by
  refine Con.ofV [some (.ref (gA G 28)), some (.ref (gA G e))] RX2 (by decide) rfl (Nat.le_of_ble_eq_true rfl) rfl ?_
  intro κ hl hG hk0 hn0
  subst hl hG
  have hcs : κ.k ≤ 0 ∧ κ.n ≤ 0 := ⟨Nat.le_of_eq hk0, Nat.le_of_eq hn0⟩
  have q0 : ∀ (N : Mem) (g : Nat → Int32), setA N e g 28 = N 28 := fun N g => setA_ne _ _ (by omega)
  have q1 : ∀ (N : Mem) (g : Nat → Int32), setA N e g 29 = N 29 := fun N g => setA_ne _ _ (by omega)
  have q2 : ∀ (N : Mem) (g : Nat → Int32), setA N e g 30 = N 30 := fun N g => setA_ne _ _ (by omega)
  have q3 : ∀ (N : Mem) (g : Nat → Int32), setA N e g 31 = N 31 := fun N g => setA_ne _ _ (by omega)
  have q4 : ∀ (N : Mem) (g : Nat → Int32), setA N e g 32 = N 32 := fun N g => setA_ne _ _ (by omega)
  have q5 : ∀ (N : Mem) (g : Nat → Int32), setA N e g 33 = N 33 := fun N g => setA_ne _ _ (by omega)
  have q6 : ∀ (N : Mem) (g : Nat → Int32), setA N e g 34 = N 34 := fun N g => setA_ne _ _ (by omega)
  refine r_aload_n (pc := 0) dX2_writeTo_0 rfl ?_
  refine r_iconst (v := nI 0) (pc := 1) dX2_writeTo_1 (by decide) ?_
  refine r_aload_n (pc := 2) dX2_writeTo_2 rfl ?_
  refine gf_X2_39 (pc := 3) dX2_writeTo_3 rfl ?_
  refine r_iast (pc := 6) dX2_writeTo_6 he (by rw [hle]; omega) ?_
  refine r_aload_n (pc := 7) dX2_writeTo_7 rfl ?_
  refine r_iconst (v := nI 1) (pc := 8) dX2_writeTo_8 (by decide) ?_
  refine r_aload_n (pc := 9) dX2_writeTo_9 rfl ?_
  refine gf_X2_49 (pc := 10) dX2_writeTo_10 rfl ?_
  refine r_iast (pc := 13) dX2_writeTo_13 he (by rw [hle]; omega) ?_
  refine r_aload_n (pc := 14) dX2_writeTo_14 rfl ?_
  refine r_iconst (v := nI 2) (pc := 15) dX2_writeTo_15 (by decide) ?_
  refine r_aload_n (pc := 16) dX2_writeTo_16 rfl ?_
  refine gf_X2_52 (pc := 17) dX2_writeTo_17 rfl ?_
  refine r_iast (pc := 20) dX2_writeTo_20 he (by rw [hle]; omega) ?_
  refine r_aload_n (pc := 21) dX2_writeTo_21 rfl ?_
  refine r_iconst (v := nI 3) (pc := 22) dX2_writeTo_22 (by decide) ?_
  refine r_aload_n (pc := 23) dX2_writeTo_23 rfl ?_
  refine gf_X2_43 (pc := 24) dX2_writeTo_24 rfl ?_
  refine r_iast (pc := 27) dX2_writeTo_27 he (by rw [hle]; omega) ?_
  refine r_aload_n (pc := 28) dX2_writeTo_28 rfl ?_
  refine r_iconst (v := nI 4) (pc := 29) dX2_writeTo_29 (by decide) ?_
  refine r_aload_n (pc := 30) dX2_writeTo_30 rfl ?_
  refine gf_X2_46 (pc := 31) dX2_writeTo_31 rfl ?_
  refine r_iast (pc := 34) dX2_writeTo_34 he (by rw [hle]; omega) ?_
  refine r_aload_n (pc := 35) dX2_writeTo_35 rfl ?_
  refine gf_X2_9 (pc := 36) dX2_writeTo_36 rfl ?_
  refine r_iconst (v := nI 0) (pc := 39) dX2_writeTo_39 (by decide) ?_
  refine r_aload_n (pc := 40) dX2_writeTo_40 rfl ?_
  refine r_iconst (v := nI 5) (pc := 41) dX2_writeTo_41 (by decide) ?_
  refine r_bipush (v := nI 6) (pc := 42) dX2_writeTo_42 (by decide) ?_
  refine r_acopy (pc := 44) (a := 29) (b := e) (x := 0) (y := 5) (n := 6) dX2_writeTo_44 wl_X2_55 w_acN w_acS w_SysI rfl he (Nat.le_of_ble_eq_true rfl) (by rw [hle]; omega) (Nat.le_of_ble_eq_true rfl) (Nat.le_of_ble_eq_true rfl) ?_
  refine r_aload_n (pc := 47) dX2_writeTo_47 rfl ?_
  refine gf_X2_15 (pc := 48) dX2_writeTo_48 rfl ?_
  refine r_iconst (v := nI 0) (pc := 51) dX2_writeTo_51 (by decide) ?_
  refine r_aload_n (pc := 52) dX2_writeTo_52 rfl ?_
  refine r_bipush (v := nI 11) (pc := 53) dX2_writeTo_53 (by decide) ?_
  refine r_bipush (v := nI 6) (pc := 55) dX2_writeTo_55 (by decide) ?_
  refine r_acopy (pc := 57) (a := 30) (b := e) (x := 0) (y := 11) (n := 6) dX2_writeTo_57 wl_X2_55 w_acN w_acS w_SysI rfl he (Nat.le_of_ble_eq_true rfl) (by rw [hle]; omega) (Nat.le_of_ble_eq_true rfl) (Nat.le_of_ble_eq_true rfl) ?_
  refine r_aload_n (pc := 60) dX2_writeTo_60 rfl ?_
  refine gf_X2_18 (pc := 61) dX2_writeTo_61 rfl ?_
  refine r_iconst (v := nI 0) (pc := 64) dX2_writeTo_64 (by decide) ?_
  refine r_aload_n (pc := 65) dX2_writeTo_65 rfl ?_
  refine r_bipush (v := nI 17) (pc := 66) dX2_writeTo_66 (by decide) ?_
  refine r_bipush (v := nI 6) (pc := 68) dX2_writeTo_68 (by decide) ?_
  refine r_acopy (pc := 70) (a := 31) (b := e) (x := 0) (y := 17) (n := 6) dX2_writeTo_70 wl_X2_55 w_acN w_acS w_SysI rfl he (Nat.le_of_ble_eq_true rfl) (by rw [hle]; omega) (Nat.le_of_ble_eq_true rfl) (Nat.le_of_ble_eq_true rfl) ?_
  refine r_aload_n (pc := 73) dX2_writeTo_73 rfl ?_
  refine gf_X2_21 (pc := 74) dX2_writeTo_74 rfl ?_
  refine r_iconst (v := nI 0) (pc := 77) dX2_writeTo_77 (by decide) ?_
  refine r_aload_n (pc := 78) dX2_writeTo_78 rfl ?_
  refine r_bipush (v := nI 23) (pc := 79) dX2_writeTo_79 (by decide) ?_
  refine r_bipush (v := nI 6) (pc := 81) dX2_writeTo_81 (by decide) ?_
  refine r_acopy (pc := 83) (a := 32) (b := e) (x := 0) (y := 23) (n := 6) dX2_writeTo_83 wl_X2_55 w_acN w_acS w_SysI rfl he (Nat.le_of_ble_eq_true rfl) (by rw [hle]; omega) (Nat.le_of_ble_eq_true rfl) (Nat.le_of_ble_eq_true rfl) ?_
  refine r_aload_n (pc := 86) dX2_writeTo_86 rfl ?_
  refine gf_X2_24 (pc := 87) dX2_writeTo_87 rfl ?_
  refine r_iconst (v := nI 0) (pc := 90) dX2_writeTo_90 (by decide) ?_
  refine r_aload_n (pc := 91) dX2_writeTo_91 rfl ?_
  refine r_bipush (v := nI 29) (pc := 92) dX2_writeTo_92 (by decide) ?_
  refine r_bipush (v := nI 6) (pc := 94) dX2_writeTo_94 (by decide) ?_
  refine r_acopy (pc := 96) (a := 33) (b := e) (x := 0) (y := 29) (n := 6) dX2_writeTo_96 wl_X2_55 w_acN w_acS w_SysI rfl he (Nat.le_of_ble_eq_true rfl) (by rw [hle]; omega) (Nat.le_of_ble_eq_true rfl) (Nat.le_of_ble_eq_true rfl) ?_
  refine r_aload_n (pc := 99) dX2_writeTo_99 rfl ?_
  refine gf_X2_27 (pc := 100) dX2_writeTo_100 rfl ?_
  refine r_iconst (v := nI 0) (pc := 103) dX2_writeTo_103 (by decide) ?_
  refine r_aload_n (pc := 104) dX2_writeTo_104 rfl ?_
  refine r_bipush (v := nI 35) (pc := 105) dX2_writeTo_105 (by decide) ?_
  refine r_bipush (v := nI 6) (pc := 107) dX2_writeTo_107 (by decide) ?_
  refine r_acopy (pc := 109) (a := 34) (b := e) (x := 0) (y := 35) (n := 6) dX2_writeTo_109 wl_X2_55 w_acN w_acS w_SysI rfl he (Nat.le_of_ble_eq_true rfl) (by rw [hle]; omega) (Nat.le_of_ble_eq_true rfl) (Nat.le_of_ble_eq_true rfl) ?_
  refine V.mem (M' := setA M e (WA M 28 (M e))) (by unfold WA; simp only [mset, setA_setA, setA_eq, q0, q1, q2, q3, q4, q5, q6]) ?_
  exact r_vret (pc := 112) dX2_writeTo_112 rfl ⟨rfl, rfl⟩
set_option maxHeartbeats 4000000 in
set_option maxRecDepth 100000 in
theorem c_X2_readFrom_28 (l : Launch) (G : Gx) (M : Mem) (e : Nat) (he : isIA e = true) (hle : lenA e = 41) (hne : e < 28 ∨ 37 < e) : Con l G yX2_readFrom cX2_readFrom 2 none 1 60 [.ref (gA G 28), .ref (gA G e)] M (rV (RA M 28 (M e))) := by
  refine Con.ofV [some (.ref (gA G 28)), some (.ref (gA G e))] RX2 (by decide) rfl (Nat.le_of_ble_eq_true rfl) rfl ?_
  intro κ hl hG hk0 hn0
  subst hl hG
  have hcs : κ.k ≤ 0 ∧ κ.n ≤ 0 := ⟨Nat.le_of_eq hk0, Nat.le_of_eq hn0⟩
  have q0 : ∀ (N : Mem) (g : Nat → Int32), setA N 28 g e = N e := fun N g => setA_ne _ _ (by omega)
  have q1 : ∀ (N : Mem) (g : Nat → Int32), setA N 29 g e = N e := fun N g => setA_ne _ _ (by omega)
  have q2 : ∀ (N : Mem) (g : Nat → Int32), setA N 30 g e = N e := fun N g => setA_ne _ _ (by omega)
  have q3 : ∀ (N : Mem) (g : Nat → Int32), setA N 31 g e = N e := fun N g => setA_ne _ _ (by omega)
  have q4 : ∀ (N : Mem) (g : Nat → Int32), setA N 32 g e = N e := fun N g => setA_ne _ _ (by omega)
  have q5 : ∀ (N : Mem) (g : Nat → Int32), setA N 33 g e = N e := fun N g => setA_ne _ _ (by omega)
  have q6 : ∀ (N : Mem) (g : Nat → Int32), setA N 34 g e = N e := fun N g => setA_ne _ _ (by omega)
  refine r_aload_n (pc := 0) dX2_readFrom_0 rfl ?_
  refine r_aload_n (pc := 1) dX2_readFrom_1 rfl ?_
  refine r_iconst (v := nI 0) (pc := 2) dX2_readFrom_2 (by decide) ?_
  refine r_iald (pc := 3) dX2_readFrom_3 he (by rw [hle]; omega) ?_
  refine pf_X2_39 (pc := 4) dX2_readFrom_4 rfl ?_
  refine r_aload_n (pc := 7) dX2_readFrom_7 rfl ?_
  refine r_aload_n (pc := 8) dX2_readFrom_8 rfl ?_
  refine r_iconst (v := nI 1) (pc := 9) dX2_readFrom_9 (by decide) ?_
  refine r_iald (pc := 10) dX2_readFrom_10 he (by rw [hle]; omega) ?_
  refine pf_X2_49 (pc := 11) dX2_readFrom_11 rfl ?_
  refine r_aload_n (pc := 14) dX2_readFrom_14 rfl ?_
  refine r_aload_n (pc := 15) dX2_readFrom_15 rfl ?_
  refine r_iconst (v := nI 2) (pc := 16) dX2_readFrom_16 (by decide) ?_
  refine r_iald (pc := 17) dX2_readFrom_17 he (by rw [hle]; omega) ?_
  refine pf_X2_52 (pc := 18) dX2_readFrom_18 rfl ?_
  refine r_aload_n (pc := 21) dX2_readFrom_21 rfl ?_
  refine r_aload_n (pc := 22) dX2_readFrom_22 rfl ?_
  refine r_iconst (v := nI 3) (pc := 23) dX2_readFrom_23 (by decide) ?_
  refine r_iald (pc := 24) dX2_readFrom_24 he (by rw [hle]; omega) ?_
  refine pf_X2_43 (pc := 25) dX2_readFrom_25 rfl ?_
  refine r_aload_n (pc := 28) dX2_readFrom_28 rfl ?_
  refine r_aload_n (pc := 29) dX2_readFrom_29 rfl ?_
  refine r_iconst (v := nI 4) (pc := 30) dX2_readFrom_30 (by decide) ?_
  refine r_iald (pc := 31) dX2_readFrom_31 he (by rw [hle]; omega) ?_
  refine pf_X2_46 (pc := 32) dX2_readFrom_32 rfl ?_
  refine r_aload_n (pc := 35) dX2_readFrom_35 rfl ?_
  refine r_iconst (v := nI 5) (pc := 36) dX2_readFrom_36 (by decide) ?_
  refine r_aload_n (pc := 37) dX2_readFrom_37 rfl ?_
  refine gf_X2_9 (pc := 38) dX2_readFrom_38 rfl ?_
  refine r_iconst (v := nI 0) (pc := 41) dX2_readFrom_41 (by decide) ?_
  refine r_bipush (v := nI 6) (pc := 42) dX2_readFrom_42 (by decide) ?_
  refine r_acopy (pc := 44) (a := e) (b := 29) (x := 5) (y := 0) (n := 6) dX2_readFrom_44 wl_X2_55 w_acN w_acS w_SysI he rfl (by rw [hle]; omega) (Nat.le_of_ble_eq_true rfl) (Nat.le_of_ble_eq_true rfl) (Nat.le_of_ble_eq_true rfl) ?_
  refine r_aload_n (pc := 47) dX2_readFrom_47 rfl ?_
  refine r_bipush (v := nI 11) (pc := 48) dX2_readFrom_48 (by decide) ?_
  refine r_aload_n (pc := 50) dX2_readFrom_50 rfl ?_
  refine gf_X2_15 (pc := 51) dX2_readFrom_51 rfl ?_
  refine r_iconst (v := nI 0) (pc := 54) dX2_readFrom_54 (by decide) ?_
  refine r_bipush (v := nI 6) (pc := 55) dX2_readFrom_55 (by decide) ?_
  refine r_acopy (pc := 57) (a := e) (b := 30) (x := 11) (y := 0) (n := 6) dX2_readFrom_57 wl_X2_55 w_acN w_acS w_SysI he rfl (by rw [hle]; omega) (Nat.le_of_ble_eq_true rfl) (Nat.le_of_ble_eq_true rfl) (Nat.le_of_ble_eq_true rfl) ?_
  refine r_aload_n (pc := 60) dX2_readFrom_60 rfl ?_
  refine r_bipush (v := nI 17) (pc := 61) dX2_readFrom_61 (by decide) ?_
  refine r_aload_n (pc := 63) dX2_readFrom_63 rfl ?_
  refine gf_X2_18 (pc := 64) dX2_readFrom_64 rfl ?_
  refine r_iconst (v := nI 0) (pc := 67) dX2_readFrom_67 (by decide) ?_
  refine r_bipush (v := nI 6) (pc := 68) dX2_readFrom_68 (by decide) ?_
  refine r_acopy (pc := 70) (a := e) (b := 31) (x := 17) (y := 0) (n := 6) dX2_readFrom_70 wl_X2_55 w_acN w_acS w_SysI he rfl (by rw [hle]; omega) (Nat.le_of_ble_eq_true rfl) (Nat.le_of_ble_eq_true rfl) (Nat.le_of_ble_eq_true rfl) ?_
  refine r_aload_n (pc := 73) dX2_readFrom_73 rfl ?_
  refine r_bipush (v := nI 23) (pc := 74) dX2_readFrom_74 (by decide) ?_
  refine r_aload_n (pc := 76) dX2_readFrom_76 rfl ?_
  refine gf_X2_21 (pc := 77) dX2_readFrom_77 rfl ?_
  refine r_iconst (v := nI 0) (pc := 80) dX2_readFrom_80 (by decide) ?_
  refine r_bipush (v := nI 6) (pc := 81) dX2_readFrom_81 (by decide) ?_
  refine r_acopy (pc := 83) (a := e) (b := 32) (x := 23) (y := 0) (n := 6) dX2_readFrom_83 wl_X2_55 w_acN w_acS w_SysI he rfl (by rw [hle]; omega) (Nat.le_of_ble_eq_true rfl) (Nat.le_of_ble_eq_true rfl) (Nat.le_of_ble_eq_true rfl) ?_
  refine r_aload_n (pc := 86) dX2_readFrom_86 rfl ?_
  refine r_bipush (v := nI 29) (pc := 87) dX2_readFrom_87 (by decide) ?_
  refine r_aload_n (pc := 89) dX2_readFrom_89 rfl ?_
  refine gf_X2_24 (pc := 90) dX2_readFrom_90 rfl ?_
  refine r_iconst (v := nI 0) (pc := 93) dX2_readFrom_93 (by decide) ?_
  refine r_bipush (v := nI 6) (pc := 94) dX2_readFrom_94 (by decide) ?_
  refine r_acopy (pc := 96) (a := e) (b := 33) (x := 29) (y := 0) (n := 6) dX2_readFrom_96 wl_X2_55 w_acN w_acS w_SysI he rfl (by rw [hle]; omega) (Nat.le_of_ble_eq_true rfl) (Nat.le_of_ble_eq_true rfl) (Nat.le_of_ble_eq_true rfl) ?_
  refine r_aload_n (pc := 99) dX2_readFrom_99 rfl ?_
  refine r_bipush (v := nI 35) (pc := 100) dX2_readFrom_100 (by decide) ?_
  refine r_aload_n (pc := 102) dX2_readFrom_102 rfl ?_
  refine gf_X2_27 (pc := 103) dX2_readFrom_103 rfl ?_
  refine r_iconst (v := nI 0) (pc := 106) dX2_readFrom_106 (by decide) ?_
  refine r_bipush (v := nI 6) (pc := 107) dX2_readFrom_107 (by decide) ?_
  refine r_acopy (pc := 109) (a := e) (b := 34) (x := 35) (y := 0) (n := 6) dX2_readFrom_109 wl_X2_55 w_acN w_acS w_SysI he rfl (by rw [hle]; omega) (Nat.le_of_ble_eq_true rfl) (Nat.le_of_ble_eq_true rfl) (Nat.le_of_ble_eq_true rfl) ?_
  refine V.mem (M' := RA M 28 (M e)) (by simp only [mset, setA_setA, setA_eq, q0, q1, q2, q3, q4, q5, q6]; rfl) ?_
  exact r_vret (pc := 112) dX2_readFrom_112 rfl ⟨rfl, rfl⟩
def keepM (M : Mem) (old a : Nat) : Mem := if a < 24 then mset (setA M (61 + (old + a) % 24) (WA M 18 (M (61 + (old + a) % 24)))) 40 2 (nI (a + 1)) else mset (setA M (61 + (old + a) % 24) (WA M 18 (M (61 + (old + a) % 24)))) 40 1 (nI ((old + 1) % 24))
set_option maxHeartbeats 4000000 in
set_option maxRecDepth 100000 in
theorem c_X1_keep (l : Launch) (G : Gx) (M : Mem) (old a : Nat) (hold : old < 24) (ha : a ≤ 24) (ho1 : M 40 1 = nI old) (ho2 : M 40 2 = nI a) : Con l G yX1_keep cX1_keep 2 none 2 81 [.ref (gA G 40), .ref (gA G 18)] M (rV (keepM M old a)) := by
  refine Con.ofV [some (.ref (gA G 40)), some (.ref (gA G 18))] RX1 (by decide) rfl (Nat.le_of_ble_eq_true rfl) rfl ?_
  intro κ hl hG hk0 hn0
  subst hl hG
  have hcs : κ.k ≤ 0 ∧ κ.n ≤ 0 := ⟨Nat.le_of_eq hk0, Nat.le_of_eq hn0⟩
  have hmd := Nat.mod_lt (old + a) (show 0 < 24 by omega)
  refine r_aload_n (pc := 0) dX1_keep_0 rfl ?_
  refine r_aload_n (pc := 1) dX1_keep_1 rfl ?_
  refine gf_X1_11 (pc := 2) dX1_keep_2 rfl ?_
  refine r_aload_n (pc := 5) dX1_keep_5 rfl ?_
  refine gf_X1_16 (pc := 6) dX1_keep_6 rfl ?_
  refine r_is (nI old) (by first | exact ho1 | (rw [setA_ne _ _ (by omega)]; exact ho1)) ?_
  refine r_aload_n (pc := 9) dX1_keep_9 rfl ?_
  refine gf_X1_20 (pc := 10) dX1_keep_10 rfl ?_
  refine r_is (nI a) (by first | exact ho2 | (rw [setA_ne _ _ (by omega)]; exact ho2)) ?_
  first | with_reducible refine r_iaddN (pc := 13) dX1_keep_13 ?_ | refine r_iadd (pc := 13) dX1_keep_13 ?_
  refine r_bipush (v := nI 24) (pc := 14) dX1_keep_14 (by decide) ?_
  refine r_irem (pc := 16) dX1_keep_16 (by decide) ?_
  refine r_is (nI ((old + a) % 24)) (pk_rem (by omega) (by omega) (by omega)) ?_
  refine r_aaK (pc := 17) dX1_keep_17 (by omega) ?_
  refine iv_X1_23 (c_X2_writeTo_18 _ _ _ (61 + (old + a) % 24) (isIA_hi (by omega) (by omega)) (lenA_cells (by omega) (by omega)) (by omega)) (pc := 18) dX1_keep_18 rfl ⟨Nat.le_of_ble_eq_true rfl, Nat.le_of_ble_eq_true rfl⟩ (Nat.le_of_ble_eq_true rfl) hcs (kV ?_)
  refine r_aload_n (pc := 21) dX1_keep_21 rfl ?_
  refine gf_X1_20 (pc := 22) dX1_keep_22 rfl ?_
  refine r_is (nI a) (by first | exact ho2 | (rw [setA_ne _ _ (by omega)]; exact ho2)) ?_
  refine r_bipush (v := nI 24) (pc := 25) dX1_keep_25 (by decide) ?_
  refine r_icmp_ge (tgt := 43) (pc := 27) dX1_keep_27 (by decide) (fun h27 => ?_) (fun h27 => ?_)
  · have h27n : ¬ a < 24 := fun z => by have := (nI_leI (by omega) (by omega)).mp h27; omega
    refine r_aload_n (pc := 43) dX1_keep_43 rfl ?_
    refine r_aload_n (pc := 44) dX1_keep_44 rfl ?_
    refine gf_X1_16 (pc := 45) dX1_keep_45 rfl ?_
    refine r_is (nI old) (by first | exact ho1 | (rw [setA_ne _ _ (by omega)]; exact ho1)) ?_
    refine r_iconst (v := nI 1) (pc := 48) dX1_keep_48 (by decide) ?_
    first | with_reducible refine r_iaddN (pc := 49) dX1_keep_49 ?_ | refine r_iadd (pc := 49) dX1_keep_49 ?_
    refine r_bipush (v := nI 24) (pc := 50) dX1_keep_50 (by decide) ?_
    refine r_irem (pc := 52) dX1_keep_52 (by decide) ?_
    refine r_is (nI ((old + 1) % 24)) (pk_rem (by omega) (by omega) (by omega)) ?_
    refine pf_X1_16 (pc := 53) dX1_keep_53 rfl ?_
    exact r_vret (pc := 56) dX1_keep_56 rfl (by first | exact ⟨rfl, by rw [keepM, if_pos h27n]⟩ | exact ⟨rfl, by rw [keepM, if_neg h27n]⟩)
  · have h27n : a < 24 := Nat.not_le.mp (fun z => h27 (nI_le z (by omega)))
    refine r_aload_n (pc := 30) dX1_keep_30 rfl ?_
    refine r_dup (pc := 31) dX1_keep_31 rfl ?_
    refine gf_X1_20 (pc := 32) dX1_keep_32 rfl ?_
    refine r_is (nI a) (by first | exact ho2 | (rw [setA_ne _ _ (by omega)]; exact ho2)) ?_
    refine r_iconst (v := nI 1) (pc := 35) dX1_keep_35 (by decide) ?_
    first | with_reducible refine r_iaddN (pc := 36) dX1_keep_36 ?_ | refine r_iadd (pc := 36) dX1_keep_36 ?_
    refine pf_X1_20 (pc := 37) dX1_keep_37 rfl ?_
    refine r_goto (tgt := 56) (pc := 40) dX1_keep_40 (by decide) ?_
    exact r_vret (pc := 56) dX1_keep_56 rfl (by first | exact ⟨rfl, by rw [keepM, if_pos h27n]⟩ | exact ⟨rfl, by rw [keepM, if_neg h27n]⟩)
set_option maxHeartbeats 4000000 in
set_option maxRecDepth 100000 in
theorem c_X1_takeBack (l : Launch) (G : Gx) (M : Mem) (old a : Nat) (hold : old < 24) (ha : a ≤ 24) (ho1 : M 40 1 = nI old) (ho2 : M 40 2 = nI a) : Con l G yX1_takeBack cX1_takeBack 2 (some .boolean) 2 81 [.ref (gA G 40), .ref (gA G 18)] M (qI (bI (0 < a)) (fun N5 => (a = 0 ∧ N5 = M) ∨ (0 < a ∧ N5 = RA (mset M 40 2 (nI (a - 1))) 18 (M (61 + (old + (a - 1)) % 24))))) := by
  refine Con.ofV [some (.ref (gA G 40)), some (.ref (gA G 18))] RX1 (by decide) rfl (Nat.le_of_ble_eq_true rfl) rfl ?_
  intro κ hl hG hk0 hn0
  subst hl hG
  have hcs : κ.k ≤ 0 ∧ κ.n ≤ 0 := ⟨Nat.le_of_eq hk0, Nat.le_of_eq hn0⟩
  have hmd := Nat.mod_lt (old + (a - 1)) (show 0 < 24 by omega)
  refine r_aload_n (pc := 0) dX1_takeBack_0 rfl ?_
  refine gf_X1_20 (pc := 1) dX1_takeBack_1 rfl ?_
  refine r_is (nI a) ho2 ?_
  refine r_iconst (v := nI 1) (pc := 4) dX1_takeBack_4 (by decide) ?_
  refine r_icmp_ge (tgt := 10) (pc := 5) dX1_takeBack_5 (by decide) (fun h5 => ?_) (fun h5 => ?_)
  · have h5n : 0 < a := (nI_leI (by omega) (by omega)).mp h5
    refine r_aload_n (pc := 10) dX1_takeBack_10 rfl ?_
    refine r_dup (pc := 11) dX1_takeBack_11 rfl ?_
    refine gf_X1_20 (pc := 12) dX1_takeBack_12 rfl ?_
    refine r_is (nI a) ho2 ?_
    refine r_iconst (v := nI 1) (pc := 15) dX1_takeBack_15 (by decide) ?_
    first | (with_reducible refine r_isubN (pc := 16) dX1_takeBack_16 ?hle ?_; case hle => omega) | refine r_isub (pc := 16) dX1_takeBack_16 ?_
    refine pf_X1_20 (pc := 17) dX1_takeBack_17 rfl ?_
    refine r_aload_n (pc := 20) dX1_takeBack_20 rfl ?_
    refine r_aload_n (pc := 21) dX1_takeBack_21 rfl ?_
    refine gf_X1_11 (pc := 22) dX1_takeBack_22 rfl ?_
    refine r_aload_n (pc := 25) dX1_takeBack_25 rfl ?_
    refine gf_X1_16 (pc := 26) dX1_takeBack_26 rfl ?_
    refine r_is (nI old) (ho1) ?_
    refine r_aload_n (pc := 29) dX1_takeBack_29 rfl ?_
    refine gf_X1_20 (pc := 30) dX1_takeBack_30 rfl ?_
    refine r_is (nI (a - 1)) rfl ?_
    first | with_reducible refine r_iaddN (pc := 33) dX1_takeBack_33 ?_ | refine r_iadd (pc := 33) dX1_takeBack_33 ?_
    refine r_bipush (v := nI 24) (pc := 34) dX1_takeBack_34 (by decide) ?_
    refine r_irem (pc := 36) dX1_takeBack_36 (by decide) ?_
    refine r_is (nI ((old + (a - 1)) % 24)) (pk_rem (by omega) (by omega) (by omega)) ?_
    refine r_aaK (pc := 37) dX1_takeBack_37 (by omega) ?_
    refine iv_X1_29 (c_X2_readFrom_18 _ _ _ (61 + (old + (a - 1)) % 24) (isIA_hi (by omega) (by omega)) (lenA_cells (by omega) (by omega)) (by omega)) (pc := 38) dX1_takeBack_38 rfl ⟨Nat.le_of_ble_eq_true rfl, Nat.le_of_ble_eq_true rfl⟩ (Nat.le_of_ble_eq_true rfl) hcs (kV ?_)
    refine r_iconst (v := nI 1) (pc := 41) dX1_takeBack_41 (by decide) ?_
    exact r_zret (pc := 42) dX1_takeBack_42 rfl (by first | rfl | exact bI_narrow) ⟨by rw [bI_t h5n], Or.inr ⟨h5n, by rw [mset_ne _ _ _ (show 61 + (old + (a - 1)) % 24 ≠ 40 by omega)]⟩⟩
  · have h5n : a = 0 := Classical.byContradiction (fun z => h5 (nI_le (by omega) (by omega)))
    refine r_iconst (v := nI 0) (pc := 8) dX1_takeBack_8 (by decide) ?_
    exact r_zret (pc := 9) dX1_takeBack_9 rfl (by first | rfl | exact bI_narrow) ⟨by rw [bI_f (by omega)], Or.inl ⟨h5n, rfl⟩⟩
set_option maxHeartbeats 4000000 in
set_option maxRecDepth 100000 in
theorem c_X1_forget (l : Launch) (G : Gx) (M : Mem)  : Con l G yX1_forget cX1_forget 1 none 0 0 [.ref (gA G 40)] M (rV (mset M 40 2 (nI 0))) := by
  refine Con.ofV [some (.ref (gA G 40))] RX1 (by decide) rfl (Nat.le_of_ble_eq_true rfl) rfl ?_
  intro κ hl hG hk0 hn0
  subst hl hG
  have hcs : κ.k ≤ 0 ∧ κ.n ≤ 0 := ⟨Nat.le_of_eq hk0, Nat.le_of_eq hn0⟩
  refine r_aload_n (pc := 0) dX1_forget_0 rfl ?_
  refine r_iconst (v := nI 0) (pc := 1) dX1_forget_1 (by decide) ?_
  refine pf_X1_20 (pc := 2) dX1_forget_2 rfl ?_
  exact r_vret (pc := 5) dX1_forget_5 rfl ⟨rfl, rfl⟩
set_option maxHeartbeats 4000000 in
set_option maxRecDepth 100000 in
theorem c_X5_within (l : Launch) (G : Gx) (M : Mem) (x a b : Int32) : Con l G yX5_within cX5_within 3 (some .boolean) 0 0 [.int x, .int a, .int b] M (rI (bI (a ≤ x ∧ x ≤ b)) M) := by
  refine Con.ofV [some (.int x), some (.int a), some (.int b)] RX5 (by decide) rfl (Nat.le_of_ble_eq_true rfl) rfl ?_
  intro κ hl hG hk0 hn0
  subst hl hG
  have hcs : κ.k ≤ 0 ∧ κ.n ≤ 0 := ⟨Nat.le_of_eq hk0, Nat.le_of_eq hn0⟩
  refine r_iload_n (pc := 0) dX5_within_0 rfl ?_
  refine r_iload_n (pc := 1) dX5_within_1 rfl ?_
  refine r_icmp_lt (tgt := 14) (pc := 2) dX5_within_2 (by decide) (fun h2 => ?_) (fun h2 => ?_)
  · have hp : ¬ (a ≤ x ∧ x ≤ b) := fun z => (fa_of_lt h2).2.1 z.1
    refine r_iconst (v := nI 0) (pc := 14) dX5_within_14 (by decide) ?_
    exact r_zret (pc := 15) dX5_within_15 rfl (by first | rfl | exact bI_narrow) (by first | exact rI_1 hp | exact rI_0 hp)
  · refine r_iload_n (pc := 5) dX5_within_5 rfl ?_
    refine r_iload_n (pc := 6) dX5_within_6 rfl ?_
    refine r_icmp_gt (tgt := 14) (pc := 7) dX5_within_7 (by decide) (fun h7 => ?_) (fun h7 => ?_)
    · have hp : ¬ (a ≤ x ∧ x ≤ b) := fun z => (fa_of_lt h7).2.1 z.2
      refine r_iconst (v := nI 0) (pc := 14) dX5_within_14 (by decide) ?_
      exact r_zret (pc := 15) dX5_within_15 rfl (by first | rfl | exact bI_narrow) (by first | exact rI_1 hp | exact rI_0 hp)
    · have hp : a ≤ x ∧ x ≤ b := ⟨fa_of_nlt h2, fa_of_nlt h7⟩
      refine r_iconst (v := nI 1) (pc := 10) dX5_within_10 (by decide) ?_
      refine r_goto (tgt := 15) (pc := 11) dX5_within_11 (by decide) ?_
      exact r_zret (pc := 15) dX5_within_15 rfl (by first | rfl | exact bI_narrow) (by first | exact rI_1 hp | exact rI_0 hp)
set_option maxHeartbeats 4000000 in
set_option maxRecDepth 100000 in
theorem c_X5_isRow (l : Launch) (G : Gx) (M : Mem) (r : Int32) : Con l G yX5_isRow cX5_isRow 1 (some .boolean) 1 22 [.int r] M (rI (bI (nI 0 ≤ r ∧ r ≤ nI 7)) M) := by
  refine Con.ofV [some (.int r)] RX5 (by decide) rfl (Nat.le_of_ble_eq_true rfl) rfl ?_
  intro κ hl hG hk0 hn0
  subst hl hG
  have hcs : κ.k ≤ 0 ∧ κ.n ≤ 0 := ⟨Nat.le_of_eq hk0, Nat.le_of_eq hn0⟩
  refine r_iload_n (pc := 0) dX5_isRow_0 rfl ?_
  refine r_iconst (v := nI 0) (pc := 1) dX5_isRow_1 (by decide) ?_
  refine r_bipush (v := nI 7) (pc := 2) dX5_isRow_2 (by decide) ?_
  refine iv_X5_63 (c_X5_within _ _ _ _ _ _) (pc := 4) dX5_isRow_4 ⟨Nat.le_of_ble_eq_true rfl, Nat.le_of_ble_eq_true rfl⟩ (Nat.le_of_ble_eq_true rfl) hcs (kI ?_)
  exact r_zret (pc := 7) dX5_isRow_7 rfl (by first | rfl | exact bI_narrow) ⟨rfl, rfl⟩
set_option maxHeartbeats 4000000 in
set_option maxRecDepth 100000 in
theorem c_X5_isChair (l : Launch) (G : Gx) (M : Mem) (x : Int32) : Con l G yX5_isChair cX5_isChair 2 (some .boolean) 1 22 [.ref (gA G 14), .int x] M (rI (bI (nI 0 ≤ x ∧ x ≤ M 18 0 - nI 1)) M) := by
  refine Con.ofV [some (.ref (gA G 14)), some (.int x)] RX5 (by decide) rfl (Nat.le_of_ble_eq_true rfl) rfl ?_
  intro κ hl hG hk0 hn0
  subst hl hG
  have hcs : κ.k ≤ 0 ∧ κ.n ≤ 0 := ⟨Nat.le_of_eq hk0, Nat.le_of_eq hn0⟩
  refine r_iload_n (pc := 0) dX5_isChair_0 rfl ?_
  refine r_iconst (v := nI 0) (pc := 1) dX5_isChair_1 (by decide) ?_
  refine r_aload_n (pc := 2) dX5_isChair_2 rfl ?_
  refine gf_X5_25 (pc := 3) dX5_isChair_3 rfl ?_
  refine gf_X5_140 (pc := 6) dX5_isChair_6 rfl ?_
  refine r_iconst (v := nI 1) (pc := 9) dX5_isChair_9 (by decide) ?_
  refine r_isub (pc := 10) dX5_isChair_10 ?_
  refine iv_X5_63 (c_X5_within _ _ _ _ _ _) (pc := 11) dX5_isChair_11 ⟨Nat.le_of_ble_eq_true rfl, Nat.le_of_ble_eq_true rfl⟩ (Nat.le_of_ble_eq_true rfl) hcs (kI ?_)
  exact r_zret (pc := 14) dX5_isChair_14 rfl (by first | rfl | exact bI_narrow) ⟨rfl, rfl⟩
set_option maxHeartbeats 4000000 in
set_option maxRecDepth 100000 in
theorem c_X5_isEmpty (l : Launch) (G : Gx) (M : Mem) (n : Nat) (hn : M 18 0 = nI n) (hn6 : n ≤ 6) : Con l G yX5_isEmpty cX5_isEmpty 1 (some .boolean) 0 0 [.ref (gA G 14)] M (rI (bI (n = 0)) M) := by
  refine Con.ofV [some (.ref (gA G 14))] RX5 (by decide) rfl (Nat.le_of_ble_eq_true rfl) rfl ?_
  intro κ hl hG hk0 hn0
  subst hl hG
  have hcs : κ.k ≤ 0 ∧ κ.n ≤ 0 := ⟨Nat.le_of_eq hk0, Nat.le_of_eq hn0⟩
  refine r_aload_n (pc := 0) dX5_isEmpty_0 rfl ?_
  refine gf_X5_25 (pc := 1) dX5_isEmpty_1 rfl ?_
  refine gf_X5_140 (pc := 4) dX5_isEmpty_4 rfl ?_
  refine r_is (nI n) (hn) ?_
  refine r_iconst (v := nI 1) (pc := 7) dX5_isEmpty_7 (by decide) ?_
  refine r_icmp_ge (tgt := 15) (pc := 8) dX5_isEmpty_8 (by decide) (fun h8 => ?_) (fun h8 => ?_)
  · have hp : ¬ n = 0 := fun z => by have := (nI_leI (by omega) (by omega)).mp h8; omega
    refine r_iconst (v := nI 0) (pc := 15) dX5_isEmpty_15 (by decide) ?_
    exact r_zret (pc := 16) dX5_isEmpty_16 rfl (by first | rfl | exact bI_narrow) (by first | exact rI_1 hp | exact rI_0 hp)
  · have hp : n = 0 := Classical.byContradiction (fun z => h8 (nI_le (by omega) (by omega)))
    refine r_iconst (v := nI 1) (pc := 11) dX5_isEmpty_11 (by decide) ?_
    refine r_goto (tgt := 16) (pc := 12) dX5_isEmpty_12 (by decide) ?_
    exact r_zret (pc := 16) dX5_isEmpty_16 rfl (by first | rfl | exact bI_narrow) (by first | exact rI_1 hp | exact rI_0 hp)
set_option maxHeartbeats 4000000 in
set_option maxRecDepth 100000 in
theorem c_X5_found (l : Launch) (G : Gx) (M : Mem) (v : Int32) : Con l G yX5_found cX5_found 2 (some .int) 0 0 [.ref (gA G 14), .int v] M (rI (-1000010 - v) (mset M 14 11 v)) := by
  refine Con.ofV [some (.ref (gA G 14)), some (.int v)] RX5 (by decide) rfl (Nat.le_of_ble_eq_true rfl) rfl ?_
  intro κ hl hG hk0 hn0
  subst hl hG
  have hcs : κ.k ≤ 0 ∧ κ.n ≤ 0 := ⟨Nat.le_of_eq hk0, Nat.le_of_eq hn0⟩
  refine r_aload_n (pc := 0) dX5_found_0 rfl ?_
  refine r_iload_n (pc := 1) dX5_found_1 rfl ?_
  refine pf_X5_301 (pc := 2) dX5_found_2 rfl ?_
  refine r_ldcw (pc := 5) dX5_found_5 lk_X5_304 ?_
  refine r_iload_n (pc := 8) dX5_found_8 rfl ?_
  first | (with_reducible refine r_isubN (pc := 9) dX5_found_9 ?hle ?_; case hle => omega) | refine r_isub (pc := 9) dX5_found_9 ?_
  exact r_iret (pc := 10) dX5_found_10 rfl ⟨rfl, rfl⟩
set_option maxHeartbeats 4000000 in
set_option maxRecDepth 100000 in
theorem c_X5_nothingFound (l : Launch) (G : Gx) (M : Mem) (v : Int32) : Con l G yX5_nothingFound cX5_nothingFound 2 (some .int) 0 0 [.ref (gA G 14), .int v] M (rI v (mset M 14 11 (nI 0))) := by
  refine Con.ofV [some (.ref (gA G 14)), some (.int v)] RX5 (by decide) rfl (Nat.le_of_ble_eq_true rfl) rfl ?_
  intro κ hl hG hk0 hn0
  subst hl hG
  have hcs : κ.k ≤ 0 ∧ κ.n ≤ 0 := ⟨Nat.le_of_eq hk0, Nat.le_of_eq hn0⟩
  refine r_aload_n (pc := 0) dX5_nothingFound_0 rfl ?_
  refine r_iconst (v := nI 0) (pc := 1) dX5_nothingFound_1 (by decide) ?_
  refine pf_X5_301 (pc := 2) dX5_nothingFound_2 rfl ?_
  refine r_iload_n (pc := 5) dX5_nothingFound_5 rfl ?_
  exact r_iret (pc := 6) dX5_nothingFound_6 rfl ⟨rfl, rfl⟩
/-- only scratch, plan, present and told changed -/
def fpc (M N : Mem) : Prop := ∀ q, q < 25 ∨ 39 < q → N q = M q
theorem fpc.refl (M : Mem) : fpc M M := fun _ _ => rfl
theorem fpc.trans {M N K : Mem} (h : fpc M N) (g : fpc N K) : fpc M K := fun q a => (g q a).trans (h q a)
theorem fr3.fpn {M N : Mem} (h : fr3 18 M N) : fpc M N := fun q a => h q (by omega) (by omega) (by omega)
theorem fro.fpp {M N : Mem} (h : fro 28 M N) : fpc M N := fun q a => h q (by omega)
theorem fr3.fpp {M N : Mem} (h : fr3 28 M N) : fpc M N := h.fro.fpp
theorem fpc.put {M N : Mem} (h : fpc M N) (e j : Nat) (v : Int32) (h1 : 25 ≤ e) (h2 : e ≤ 39) : fpc M (mset N e j v) := fun q a => by rw [mset_ne _ _ _ (by omega)]; exact h q a
theorem fpc.ms {M N : Mem} {n : Nat} {S : Nat → Int32} (h : fpc M N) (g : ms 18 n S M) : ms 18 n S N := g.fr (fun q _ _ => h q (by omega))
/-- the plan put to a changed S -/
theorem ms.watch {o n : Nat} {S : Nat → Int32} {M : Mem} (h : ms o n S M) (v : Int32) : ms o n (upd S 4 v) (mset M o 4 v) := by
  obtain ⟨h1, h2, h3, h4, h5, h6⟩ := h
  refine ⟨by rw [mset_eq, pk_un (by decide)]; exact h1, by rw [mset_eq, pk_un (by decide)]; exact h2, by rw [mset_eq, pk_un (by decide)]; exact h3, by rw [mset_eq, pk_un (by decide), pk_un (by decide)]; exact h4, by rw [mset_eq, pk_us, pk_us], fun c hc => ?_⟩
  rw [mset_ne _ _ _ (by omega), mset_ne _ _ _ (by omega), mset_ne _ _ _ (by omega), mset_ne _ _ _ (by omega), mset_ne _ _ _ (by omega), mset_ne _ _ _ (by omega), pk_un (by omega), pk_un (by omega), pk_un (by omega), pk_un (by omega), pk_un (by omega), pk_un (by omega)]
  exact h6 c hc
theorem Rg.watch {n w : Nat} {S : Nat → Int32} (h : Rg n S) (hw : w < 2 ^ n) : Rg n (upd S 4 (nI w)) := by
  obtain ⟨h1, h2, h3, h4, h5⟩ := h
  refine ⟨h1, by rw [pk_un (by decide)]; exact h2, by rw [pk_un (by decide)]; exact h3, ⟨w, hw, by rw [pk_us]⟩, fun c hc => ?_⟩
  unfold Rc
  rw [pk_un (by omega), pk_un (by omega), pk_un (by omega), pk_un (by omega), pk_un (by omega)]
  exact h5 c hc
/-- the places of kinds, legs, cushions, saws, grudges, caught: reference's and class's -/
def plc (o a : Nat) : Nat → Nat := fun j => if j = 1 then 5 else if j = 2 then 11 else if j = 3 then 29 else if j = 4 then 17 else if j = 5 then 23 else 35
theorem ms.put {o n : Nat} {S : Nat → Int32} {M : Mem} (h : ms o n S M) {j p k : Nat} (hj : (j = 1 ∧ p = 5) ∨ (j = 2 ∧ p = 11) ∨ (j = 3 ∧ p = 29) ∨ (j = 4 ∧ p = 17) ∨ (j = 5 ∧ p = 23) ∨ (j = 6 ∧ p = 35)) (hk : k < 6) (hn : n ≤ 6) (v : Int32) : ms o n (upd S (p + k) v) (mset M (o + j) k v) := by
  obtain ⟨h1, h2, h3, h4, h5, h6⟩ := h
  refine ⟨by rw [mset_ne _ _ _ (by omega)]; exact h1, by rw [mset_ne _ _ _ (by omega), pk_un (by omega)]; exact h2, by rw [mset_ne _ _ _ (by omega), pk_un (by omega)]; exact h3, by rw [mset_ne _ _ _ (by omega), pk_un (by omega)]; exact h4, by rw [mset_ne _ _ _ (by omega), pk_un (by omega)]; exact h5, fun c hc => ?_⟩
  obtain ⟨a1, a2, a3, a4, a5, a6⟩ := h6 c hc
  rcases hj with ⟨rfl, rfl⟩ | ⟨rfl, rfl⟩ | ⟨rfl, rfl⟩ | ⟨rfl, rfl⟩ | ⟨rfl, rfl⟩ | ⟨rfl, rfl⟩
  · rw [mset_eq, mset_ne (q := o + 2) _ _ _ (by omega), mset_ne (q := o + 3) _ _ _ (by omega), mset_ne (q := o + 4) _ _ _ (by omega), mset_ne (q := o + 5) _ _ _ (by omega), mset_ne (q := o + 6) _ _ _ (by omega), pk_un (j := 11 + c) (by omega), pk_un (j := 29 + c) (by omega), pk_un (j := 17 + c) (by omega), pk_un (j := 23 + c) (by omega), pk_un (j := 35 + c) (by omega)]
    refine ⟨?_, a2, a3, a4, a5, a6⟩
    by_cases e : c = k
    · subst e; rw [pk_us, pk_us]
    · rw [pk_un e, pk_un (by omega)]; exact a1
  · rw [mset_eq, mset_ne (q := o + 1) _ _ _ (by omega), mset_ne (q := o + 3) _ _ _ (by omega), mset_ne (q := o + 4) _ _ _ (by omega), mset_ne (q := o + 5) _ _ _ (by omega), mset_ne (q := o + 6) _ _ _ (by omega), pk_un (j := 5 + c) (by omega), pk_un (j := 29 + c) (by omega), pk_un (j := 17 + c) (by omega), pk_un (j := 23 + c) (by omega), pk_un (j := 35 + c) (by omega)]
    refine ⟨a1, ?_, a3, a4, a5, a6⟩
    by_cases e : c = k
    · subst e; rw [pk_us, pk_us]
    · rw [pk_un e, pk_un (by omega)]; exact a2
  · rw [mset_eq, mset_ne (q := o + 2) _ _ _ (by omega), mset_ne (q := o + 1) _ _ _ (by omega), mset_ne (q := o + 4) _ _ _ (by omega), mset_ne (q := o + 5) _ _ _ (by omega), mset_ne (q := o + 6) _ _ _ (by omega), pk_un (j := 11 + c) (by omega), pk_un (j := 5 + c) (by omega), pk_un (j := 17 + c) (by omega), pk_un (j := 23 + c) (by omega), pk_un (j := 35 + c) (by omega)]
    refine ⟨a1, a2, ?_, a4, a5, a6⟩
    by_cases e : c = k
    · subst e; rw [pk_us, pk_us]
    · rw [pk_un e, pk_un (by omega)]; exact a3
  · rw [mset_eq, mset_ne (q := o + 2) _ _ _ (by omega), mset_ne (q := o + 3) _ _ _ (by omega), mset_ne (q := o + 1) _ _ _ (by omega), mset_ne (q := o + 5) _ _ _ (by omega), mset_ne (q := o + 6) _ _ _ (by omega), pk_un (j := 11 + c) (by omega), pk_un (j := 29 + c) (by omega), pk_un (j := 5 + c) (by omega), pk_un (j := 23 + c) (by omega), pk_un (j := 35 + c) (by omega)]
    refine ⟨a1, a2, a3, ?_, a5, a6⟩
    by_cases e : c = k
    · subst e; rw [pk_us, pk_us]
    · rw [pk_un e, pk_un (by omega)]; exact a4
  · rw [mset_eq, mset_ne (q := o + 2) _ _ _ (by omega), mset_ne (q := o + 3) _ _ _ (by omega), mset_ne (q := o + 4) _ _ _ (by omega), mset_ne (q := o + 1) _ _ _ (by omega), mset_ne (q := o + 6) _ _ _ (by omega), pk_un (j := 11 + c) (by omega), pk_un (j := 29 + c) (by omega), pk_un (j := 17 + c) (by omega), pk_un (j := 5 + c) (by omega), pk_un (j := 35 + c) (by omega)]
    refine ⟨a1, a2, a3, a4, ?_, a6⟩
    by_cases e : c = k
    · subst e; rw [pk_us, pk_us]
    · rw [pk_un e, pk_un (by omega)]; exact a5
  · rw [mset_eq, mset_ne (q := o + 2) _ _ _ (by omega), mset_ne (q := o + 3) _ _ _ (by omega), mset_ne (q := o + 4) _ _ _ (by omega), mset_ne (q := o + 5) _ _ _ (by omega), mset_ne (q := o + 1) _ _ _ (by omega), pk_un (j := 11 + c) (by omega), pk_un (j := 29 + c) (by omega), pk_un (j := 17 + c) (by omega), pk_un (j := 23 + c) (by omega), pk_un (j := 5 + c) (by omega)]
    refine ⟨a1, a2, a3, a4, a5, ?_⟩
    by_cases e : c = k
    · subst e; rw [pk_us, pk_us]
    · rw [pk_un e, pk_un (by omega)]; exact a6
set_option maxHeartbeats 4000000 in
set_option maxRecDepth 100000 in
theorem c_X5_foresee (l : Launch) (G : Gx) (M : Mem) (S : Nat → Int32) (n : Nat) (hm : ms 18 n S M) (hR : Rg n S) : Con l G yX5_foresee cX5_foresee 1 none 2 81 [.ref (gA G 14)] M (qV (fun N5 => fpc M N5 ∧ ms 28 n S N5)) := by
  refine Con.ofV [some (.ref (gA G 14))] RX5 (by decide) rfl (Nat.le_of_ble_eq_true rfl) rfl ?_
  intro κ hl hG hk0 hn0
  subst hl hG
  have hcs : κ.k ≤ 0 ∧ κ.n ≤ 0 := ⟨Nat.le_of_eq hk0, Nat.le_of_eq hn0⟩
  refine r_aload_n (pc := 0) dX5_foresee_0 rfl ?_
  refine gf_X5_25 (pc := 1) dX5_foresee_1 rfl ?_
  refine r_aload_n (pc := 4) dX5_foresee_4 rfl ?_
  refine gf_X5_32 (pc := 5) dX5_foresee_5 rfl ?_
  refine iv_X5_130 (c_X2_writeTo_18 _ _ _ _ rfl rfl (by omega)) (pc := 8) dX5_foresee_8 rfl ⟨Nat.le_of_ble_eq_true rfl, Nat.le_of_ble_eq_true rfl⟩ (Nat.le_of_ble_eq_true rfl) hcs (kV ?_)
  refine r_aload_n (pc := 11) dX5_foresee_11 rfl ?_
  refine gf_X5_29 (pc := 12) dX5_foresee_12 rfl ?_
  refine r_aload_n (pc := 15) dX5_foresee_15 rfl ?_
  refine gf_X5_32 (pc := 16) dX5_foresee_16 rfl ?_
  refine iv_X5_134 (c_X2_readFrom_28 _ _ _ _ rfl rfl (by omega)) (pc := 19) dX5_foresee_19 rfl ⟨Nat.le_of_ble_eq_true rfl, Nat.le_of_ble_eq_true rfl⟩ (Nat.le_of_ble_eq_true rfl) hcs (kV ?_)
  exact r_vret (pc := 22) dX5_foresee_22 rfl ⟨rfl, fun q hq => by rw [RA_fr _ _ _ (by omega), setA_ne _ _ (by omega)], cel_ms (RA_cel _ 28 _) (by rw [setA_eq]; exact cel_cs (WA_cel M 18 _) hm hR.1) hR.1⟩
set_option maxHeartbeats 4000000 in
set_option maxRecDepth 100000 in
theorem c_X5_passWatched (l : Launch) (G : Gx) (M : Mem) (m w : Nat) (hm60 : m ≤ 60) (S : Nat → Int32) (n : Nat) (hm : ms 18 n S M) (hR : Rg n S) (hn1 : 0 < n) (hw : w < 2 ^ n) : Con l G yX5_passWatched cX5_passWatched 3 none 4 129 [.ref (gA G 14), .int (nI m), .int (nI w)] M (qV (fun N5 => fpc M N5 ∧ ∃ T, ms 28 n T N5 ∧ Rg n T ∧ sk n T (goP (upd S 4 (nI w)) n m))) := by
  refine Con.ofV [some (.ref (gA G 14)), some (.int (nI m)), some (.int (nI w))] RX5 (by decide) rfl (Nat.le_of_ble_eq_true rfl) rfl ?_
  intro κ hl hG hk0 hn0
  subst hl hG
  have hcs : κ.k ≤ 0 ∧ κ.n ≤ 0 := ⟨Nat.le_of_eq hk0, Nat.le_of_eq hn0⟩
  refine r_aload_n (pc := 0) dX5_passWatched_0 rfl ?_
  refine iv_X5_213 (c_X5_foresee _ _ _ _ _ (by assumption) (by assumption)) (pc := 1) dX5_passWatched_1 rfl ⟨Nat.le_of_ble_eq_true rfl, Nat.le_of_ble_eq_true rfl⟩ (Nat.le_of_ble_eq_true rfl) hcs (kqV (fun N1 r1 => ?_))
  refine r_aload_n (pc := 4) dX5_passWatched_4 rfl ?_
  refine gf_X5_29 (pc := 5) dX5_passWatched_5 rfl ?_
  refine r_iload_n (pc := 8) dX5_passWatched_8 rfl ?_
  refine pf_X5_181 (pc := 9) dX5_passWatched_9 rfl ?_
  refine r_aload_n (pc := 12) dX5_passWatched_12 rfl ?_
  refine gf_X5_29 (pc := 13) dX5_passWatched_13 rfl ?_
  refine r_iload_n (pc := 16) dX5_passWatched_16 rfl ?_
  refine iv_X5_216 (c_X2_passNights_28 _ _ _ m hm60 (upd S 4 (nI w)) n (r1.2.watch _) (hR.watch hw) hn1) (pc := 17) dX5_passWatched_17 rfl ⟨Nat.le_of_ble_eq_true rfl, Nat.le_of_ble_eq_true rfl⟩ (Nat.le_of_ble_eq_true rfl) hcs (kqV (fun N17 r17 => ?_))
  exact r_vret (pc := 20) dX5_passWatched_20 rfl ⟨rfl, (r1.1.put 28 4 _ (by omega) (by omega)).trans r17.1.fpp, r17.2⟩
set_option maxHeartbeats 4000000 in
set_option maxRecDepth 100000 in
theorem c_X5_rankIfWatched (l : Launch) (G : Gx) (M : Mem) (c m w : Nat) (hm60 : m ≤ 60) (S : Nat → Int32) (n : Nat) (hm : ms 18 n S M) (hR : Rg n S) (hn1 : 0 < n) (hc : c < n) (hw : w < 2 ^ n) : Con l G yX5_rankIfWatched cX5_rankIfWatched 4 (some .int) 5 151 [.ref (gA G 14), .int (nI c), .int (nI m), .int (nI w)] M (qI (nI (rankN (goP (upd S 4 (nI w)) n m) c n)) (fpc M)) := by
  refine Con.ofV [some (.ref (gA G 14)), some (.int (nI c)), some (.int (nI m)), some (.int (nI w))] RX5 (by decide) rfl (Nat.le_of_ble_eq_true rfl) rfl ?_
  intro κ hl hG hk0 hn0
  subst hl hG
  have hcs : κ.k ≤ 0 ∧ κ.n ≤ 0 := ⟨Nat.le_of_eq hk0, Nat.le_of_eq hn0⟩
  refine r_aload_n (pc := 0) dX5_rankIfWatched_0 rfl ?_
  refine r_iload_n (pc := 1) dX5_rankIfWatched_1 rfl ?_
  refine r_iload_n (pc := 2) dX5_rankIfWatched_2 rfl ?_
  refine iv_X5_223 (c_X5_passWatched _ _ _ m w hm60 S n hm hR hn1 hw) (pc := 3) dX5_rankIfWatched_3 rfl ⟨Nat.le_of_ble_eq_true rfl, Nat.le_of_ble_eq_true rfl⟩ (Nat.le_of_ble_eq_true rfl) hcs (kqV (fun N3 r3 => ?_))
  obtain ⟨f3, T, t1, t2, t3⟩ := r3
  refine r_aload_n (pc := 6) dX5_rankIfWatched_6 rfl ?_
  refine gf_X5_29 (pc := 7) dX5_rankIfWatched_7 rfl ?_
  refine r_iload_n (pc := 10) dX5_rankIfWatched_10 rfl ?_
  refine iv_X5_204 (c_X2_rankOf_28 _ _ _ c T n t1 t2 hc) (pc := 11) dX5_rankIfWatched_11 rfl ⟨Nat.le_of_ble_eq_true rfl, Nat.le_of_ble_eq_true rfl⟩ (Nat.le_of_ble_eq_true rfl) hcs (kqI (fun N11 r11 => ?_))
  refine r_is (nI (rankN (goP (upd S 4 (nI w)) n m) c n)) (by rw [t3.rank hc]) ?_
  exact r_iret (pc := 14) dX5_rankIfWatched_14 rfl ⟨rfl, f3.trans r11.fpp⟩
