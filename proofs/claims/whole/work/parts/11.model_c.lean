theorem mset_setA_ne (M : Mem) (a i b : Nat) (v : Int32) (g : Nat → Int32) (h : a ≠ b) : mset (setA M b g) a i v = setA (mset M a i v) b g := by
  unfold mset
  rw [setA_ne _ _ h, setA_comm _ _ _ h.symm]
theorem mset_mset (M : Mem) (a i : Nat) (v w : Int32) : mset (mset M a i v) a i w = mset M a i w := by
  unfold mset
  rw [setA_setA, setA_eq]
  congr 1
  funext q
  unfold upd
  split <;> rfl
def chG (n : Nat) (x : Int32) : Prop := ∃ k, k < n ∧ x = nI k
def rgG (a b : Nat) (x : Int32) : Prop := ∃ q, a ≤ q ∧ q ≤ b ∧ x = nI q
theorem rg_iff {a b : Nat} {x : Int32} (hb : b < 2 ^ 31) : (nI a ≤ x ∧ x ≤ nI b) ↔ (a ≤ b ∧ rgG a b x) ∨ (b < a ∧ a < 2 ^ 32 ∧ nI a ≤ x ∧ x ≤ nI b) ∨ (2 ^ 32 ≤ a ∧ nI a ≤ x ∧ x ≤ nI b) := by
  constructor
  · rintro ⟨h1, h2⟩
    rcases Nat.lt_or_ge b a with h | h
    · rcases Nat.lt_or_ge a (2 ^ 32) with h3 | h3
      · exact Or.inr (Or.inl ⟨h, h3, h1, h2⟩)
      · exact Or.inr (Or.inr ⟨h3, h1, h2⟩)
    · refine Or.inl ⟨h, x.toInt.toNat, ?_⟩
      rw [fa_le, nI_toInt (by omega)] at h1 h2
      refine ⟨by omega, by omega, ?_⟩
      apply Int32.toInt_inj.mp
      rw [nI_toInt (by omega)]
      omega
  · rintro (⟨-, q, h1, h2, rfl⟩ | ⟨-, -, h1, h2⟩ | ⟨-, h1, h2⟩)
    · exact ⟨nI_le h1 (by omega), nI_le h2 (by omega)⟩
    · exact ⟨h1, h2⟩
    · exact ⟨h1, h2⟩
theorem rg_mp {a b : Nat} {x : Int32} (h : nI a ≤ x ∧ x ≤ nI b) (hab : a ≤ b) (hb : b < 2 ^ 31) : rgG a b x := by
  rcases (rg_iff hb).mp h with h | h | h
  · exact h.2
  · omega
  · omega
theorem rg_mpr {a b : Nat} {x : Int32} (h : rgG a b x) (hb : b < 2 ^ 31) : nI a ≤ x ∧ x ≤ nI b := by
  obtain ⟨q, h1, h2, rfl⟩ := h
  exact ⟨nI_le h1 (by omega), nI_le h2 (by omega)⟩
theorem ch_mp {n : Nat} {m x : Int32} (hm : m = nI n) (hn : n ≤ 6) (h : nI 0 ≤ x ∧ x ≤ m - nI 1) : chG n x := by
  subst hm
  rcases Nat.eq_zero_or_pos n with h0 | h0
  · subst h0
    exfalso
    have h1 := (fa_le _ _).mp h.1
    have h2 := (fa_le _ _).mp h.2
    rw [show (nI 0 - nI 1).toInt = -1 by decide] at h2
    rw [show (nI 0).toInt = 0 by decide] at h1
    omega
  · rw [pk_sub (by omega)] at h
    obtain ⟨q, h1, h2, h3⟩ := rg_mp h (by omega) (by omega)
    exact ⟨q, by omega, h3⟩
theorem ch_mpr {n : Nat} {m x : Int32} (hm : m = nI n) (hn : n ≤ 6) (h : chG n x) : nI 0 ≤ x ∧ x ≤ m - nI 1 := by
  subst hm
  obtain ⟨k, h1, rfl⟩ := h
  rw [pk_sub (by omega)]
  exact ⟨nI_le (by omega) (by omega), nI_le (by omega) (by omega)⟩
/-- how many of six bits -/
def pop (w : Nat) : Nat := w % 2 + w / 2 % 2 + w / 4 % 2 + w / 8 % 2 + w / 16 % 2 + w / 32 % 2
theorem pop_step : ∀ s : Nat, s < 64 → 0 < s → pop (s &&& (s - 1)) + 1 = pop s := by decide
theorem pop_and : ∀ s : Nat, s < 64 → 0 < s → s &&& (s - 1) < s := by decide
theorem pop_le (w : Nat) : pop w ≤ 6 := by unfold pop; omega
def asideM (M : Mem) : Mem := setA M 10 (pt (M 10) (M 4) 41)
def backM (M : Mem) : Mem := setA M 4 (pt (M 4) (M 10) 41)
def goM (M : Mem) (n : Nat) : Nat → Mem
  | 0 => M
  | k + 1 => nightM (goM M n k) n
theorem nightS_lo (S b : Nat → Int32) (n : Nat) {k : Nat} (h : k < 3) : nightS S b n k = S k := by
  unfold nightS
  rw [pk_un (by omega)]
  exact nightN_lo _ _ _ (by omega) _
theorem nightM_4 (M : Mem) (n : Nat) : nightM M n 4 = nightS (M 4) (zerA (M 8) n) n := rfl
theorem goM_2 (M : Mem) (n : Nat) : ∀ k, goM M n k 4 2 = M 4 2
  | 0 => rfl
  | k + 1 => by
    show nightM (goM M n k) n 4 2 = _
    rw [nightM_4, nightS_lo _ _ _ (by omega)]
    exact goM_2 M n k
def shf (A : Nat → Int32) (j : Nat) : Nat → Int32 := fun k => if k < j then A (k + 41) else A k
theorem shf_0 (A : Nat → Int32) : shf A 0 = A := by
  funext k
  simp [shf]
theorem shf_s (A : Nat → Int32) (j : Nat) : upd (shf A j) j (A (j + 41)) = shf A (j + 1) := by
  funext k
  unfold upd shf
  by_cases h : k = j
  · subst h
    simp
  · rw [if_neg h]
    by_cases h2 : k < j
    · rw [if_pos h2, if_pos (by omega)]
    · rw [if_neg h2, if_neg (by omega)]
def noteN (N : Mem) (b : Nat) : Mem := setA (mset N 0 19 (nI (b + 1))) 9 (fb_put (N 9) (N 4) (41 * b) 41)
def noteM (M : Mem) (a : Nat) : Mem := if a = 24 then noteN (mset (setA M 9 (shf (M 9) 943)) 0 19 (nI 23)) 23 else noteN M a
theorem noteM_4 (M : Mem) (a : Nat) : noteM M a 4 = M 4 := by
  unfold noteM
  split <;> rfl
def undoM (M : Mem) (a : Nat) : Mem := setA (mset M 0 19 (nI (a - 1))) 4 (pt (M 4) (fun k => M 9 (41 * (a - 1) + k)) 41)
def glueV (S : Nat → Int32) (k : Nat) : Int32 := if S (11 + k) + S 1 ≤ nI 60 then S (11 + k) + S 1 else nI 60
def exchA (g : Nat → Int32) (a b : Nat) : Nat → Int32 := upd (upd g a (g b)) b (g a)
set_option maxHeartbeats 4000000 in
set_option maxRecDepth 100000 in
theorem c_X6_ones (l : Launch) (G : Gx) (M : Mem) (w : Nat) (hw : w < 64) : Con l G yX6_ones cX6_ones 3 (some .int) 0 0 [.int (nI w)] M (rI (nI (pop w)) M) := by
  refine Con.ofV [some (.int (nI w)), none, none] RX6 (by decide) rfl (Nat.le_of_ble_eq_true rfl) rfl ?_
  intro κ hl hG hk0 hn0
  subst hl hG
  have hcs : κ.k ≤ 0 ∧ κ.n ≤ 0 := ⟨Nat.le_of_eq hk0, Nat.le_of_eq hn0⟩
  refine r_iconst (v := nI 0) (pc := 0) dX6_ones_0 (by decide) ?_
  refine r_st_n [_, _, _] (pc := 1) dX6_ones_1 (by decide) rfl rfl ?_
  refine r_iload_n (pc := 2) dX6_ones_2 rfl ?_
  refine r_st_n [_, _, _] (pc := 3) dX6_ones_3 (by decide) rfl rfl ?_
  refine V.bk (loopV (fun (σ : Nat × Nat) => V κ cX6_ones RX6 3 (some .int) (rmx 0 0) (QM κ (rI (nI (pop w)) M)) M 4 [some (.int (nI w)), some (.int (nI (σ.2))), some (.int (nI (σ.1)))] []) (fun (σ : Nat × Nat) => (σ.1) < 64 ∧ (σ.2) + pop (σ.1) = pop w ∧ (σ.2) ≤ 6) (fun (σ : Nat × Nat) => (σ.1)) ?_ (w, 0) ⟨hw, Nat.zero_add _, by omega⟩) rfl (by (repeat (first | exact wk_0 | refine wk_n ?_ | refine wk_s rfl ?_)); done)
  rintro ⟨s, c⟩ hI0 ih
  dsimp only at hI0 ih
  obtain ⟨hs, hc, hc6⟩ := hI0
  show V κ cX6_ones RX6 3 (some .int) (rmx 0 0) (QM κ (rI (nI (pop w)) M)) M 4 [some (.int (nI w)), some (.int (nI c)), some (.int (nI s))] []
  refine r_iload_n (pc := 4) dX6_ones_4 rfl ?_
  refine r_if_eq (tgt := 20) (pc := 5) dX6_ones_5 (by decide) (fun h5 => ?_) (fun h5 => ?_)
  · have h5 : s = 0 := (nI_eq (by omega) (by omega)).mp (h5.trans nI_0.symm)
    subst h5
    refine r_iload_n (pc := 20) dX6_ones_20 rfl ?_
    exact r_iret (pc := 21) dX6_ones_21 rfl ⟨by rw [← hc]; rfl, rfl⟩
  · have h5 : s ≠ 0 := fun z => h5 (by rw [z]; rfl)
    first | refine r_inc [_, _, _] (pc := 8) dX6_ones_8 rfl (nI_inc _) (by decide) rfl rfl ?_ | refine r_inc [_, _, _] (pc := 8) dX6_ones_8 rfl rfl (by decide) rfl rfl ?_
    refine r_iload_n (pc := 11) dX6_ones_11 rfl ?_
    refine r_iload_n (pc := 12) dX6_ones_12 rfl ?_
    refine r_iconst (v := nI 1) (pc := 13) dX6_ones_13 (by decide) ?_
    refine r_isubN (pc := 14) dX6_ones_14 (by omega) ?_
    refine r_iand (pc := 15) dX6_ones_15 ?_
    refine r_is (nI (s &&& (s - 1))) (fa_and _ _) ?_
    refine r_st_n [_, _, _] (pc := 16) dX6_ones_16 (by decide) rfl rfl ?_
    refine r_goto (tgt := 4) (pc := 17) dX6_ones_17 (by decide) ?_
    exact ih (s &&& (s - 1), c + 1) ⟨by have := pop_and s hs (by omega); dsimp only; omega, by have := pop_step s hs (by omega); dsimp only; omega, by have := pop_step s hs (by omega); have := pop_le w; dsimp only; omega⟩ (pop_and s hs (by omega))
set_option maxHeartbeats 4000000 in
set_option maxRecDepth 100000 in
theorem c_X6_putAside (l : Launch) (G : Gx) (M : Mem)  : Con l G yX6_putAside cX6_putAside 2 none 0 0 [.ref (gA G 0)] M (rV (asideM M)) := by
  refine Con.ofV [some (.ref (gA G 0)), none] RX6 (by decide) rfl (Nat.le_of_ble_eq_true rfl) rfl ?_
  intro κ hl hG hk0 hn0
  subst hl hG
  have hcs : κ.k ≤ 0 ∧ κ.n ≤ 0 := ⟨Nat.le_of_eq hk0, Nat.le_of_eq hn0⟩
  refine r_iconst (v := nI 0) (pc := 0) dX6_putAside_0 (by decide) ?_
  refine r_st_n [_, _] (pc := 1) dX6_putAside_1 (by decide) rfl rfl ?_
  refine V.bk (loopV (fun (σ : Nat) => V κ cX6_putAside RX6 2 none (rmx 0 0) (QM κ (rV (asideM M))) (setA M 10 (pt (M 10) (M 4) σ)) 2 [some (.ref (gA κ.G 0)), some (.int (nI σ))] []) (fun (σ : Nat) => σ ≤ 41) (fun (σ : Nat) => 41 - σ) ?_ 0 (Nat.zero_le _)) (by rw [pt_0, setA_id]) (by (repeat (first | exact wk_0 | refine wk_n ?_ | refine wk_s rfl ?_)); done)
  rintro j hj ih
  show V κ cX6_putAside RX6 2 none (rmx 0 0) (QM κ (rV (asideM M))) (setA M 10 (pt (M 10) (M 4) j)) 2 [some (.ref (gA κ.G 0)), some (.int (nI j))] []
  refine r_iload_n (pc := 2) dX6_putAside_2 rfl ?_
  refine r_bipush (v := nI 41) (pc := 3) dX6_putAside_3 (by decide) ?_
  refine r_icmp_ge (tgt := 26) (pc := 5) dX6_putAside_5 (by decide) (fun h5 => ?_) (fun h5 => ?_)
  · have h5 : 41 ≤ j := (nI_leI (by omega) (by omega)).mp h5
    exact r_vret (pc := 26) dX6_putAside_26 rfl ⟨rfl, by rw [show j = 41 by omega]; rfl⟩
  · have h5 : j < 41 := Nat.not_le.mp (fun z => h5 ((nI_leI (by omega) (by omega)).mpr z))
    refine r_aload_n (pc := 8) dX6_putAside_8 rfl ?_
    refine gf_X6_37 (pc := 9) dX6_putAside_9 rfl ?_
    refine r_iload_n (pc := 12) dX6_putAside_12 rfl ?_
    refine r_aload_n (pc := 13) dX6_putAside_13 rfl ?_
    refine gf_X6_19 (pc := 14) dX6_putAside_14 rfl ?_
    refine r_iload_n (pc := 17) dX6_putAside_17 rfl ?_
    refine r_iald (pc := 18) dX6_putAside_18 rfl (show _ < 41 by omega) ?_
    refine r_iast (pc := 19) dX6_putAside_19 rfl (show _ < 41 by omega) ?_
    first | refine r_inc [_, _] (pc := 20) dX6_putAside_20 rfl (nI_inc _) (by decide) rfl rfl ?_ | refine r_inc [_, _] (pc := 20) dX6_putAside_20 rfl rfl (by decide) rfl rfl ?_
    refine r_goto (tgt := 2) (pc := 23) dX6_putAside_23 (by decide) ?_
    exact V.bk (ih (j + 1) (by omega) (by omega)) (by rw [mset_setA]; exact congrArg _ (pt_s _ _ _)) (by (repeat (first | exact wk_0 | refine wk_n ?_ | refine wk_s rfl ?_)); done)
set_option maxHeartbeats 4000000 in
set_option maxRecDepth 100000 in
theorem c_X6_takeBack (l : Launch) (G : Gx) (M : Mem)  : Con l G yX6_takeBack cX6_takeBack 2 none 0 0 [.ref (gA G 0)] M (rV (backM M)) := by
  refine Con.ofV [some (.ref (gA G 0)), none] RX6 (by decide) rfl (Nat.le_of_ble_eq_true rfl) rfl ?_
  intro κ hl hG hk0 hn0
  subst hl hG
  have hcs : κ.k ≤ 0 ∧ κ.n ≤ 0 := ⟨Nat.le_of_eq hk0, Nat.le_of_eq hn0⟩
  refine r_iconst (v := nI 0) (pc := 0) dX6_takeBack_0 (by decide) ?_
  refine r_st_n [_, _] (pc := 1) dX6_takeBack_1 (by decide) rfl rfl ?_
  refine V.bk (loopV (fun (σ : Nat) => V κ cX6_takeBack RX6 2 none (rmx 0 0) (QM κ (rV (backM M))) (setA M 4 (pt (M 4) (M 10) σ)) 2 [some (.ref (gA κ.G 0)), some (.int (nI σ))] []) (fun (σ : Nat) => σ ≤ 41) (fun (σ : Nat) => 41 - σ) ?_ 0 (Nat.zero_le _)) (by rw [pt_0, setA_id]) (by (repeat (first | exact wk_0 | refine wk_n ?_ | refine wk_s rfl ?_)); done)
  rintro j hj ih
  show V κ cX6_takeBack RX6 2 none (rmx 0 0) (QM κ (rV (backM M))) (setA M 4 (pt (M 4) (M 10) j)) 2 [some (.ref (gA κ.G 0)), some (.int (nI j))] []
  refine r_iload_n (pc := 2) dX6_takeBack_2 rfl ?_
  refine r_bipush (v := nI 41) (pc := 3) dX6_takeBack_3 (by decide) ?_
  refine r_icmp_ge (tgt := 26) (pc := 5) dX6_takeBack_5 (by decide) (fun h5 => ?_) (fun h5 => ?_)
  · have h5 : 41 ≤ j := (nI_leI (by omega) (by omega)).mp h5
    exact r_vret (pc := 26) dX6_takeBack_26 rfl ⟨rfl, by rw [show j = 41 by omega]; rfl⟩
  · have h5 : j < 41 := Nat.not_le.mp (fun z => h5 ((nI_leI (by omega) (by omega)).mpr z))
    refine r_aload_n (pc := 8) dX6_takeBack_8 rfl ?_
    refine gf_X6_19 (pc := 9) dX6_takeBack_9 rfl ?_
    refine r_iload_n (pc := 12) dX6_takeBack_12 rfl ?_
    refine r_aload_n (pc := 13) dX6_takeBack_13 rfl ?_
    refine gf_X6_37 (pc := 14) dX6_takeBack_14 rfl ?_
    refine r_iload_n (pc := 17) dX6_takeBack_17 rfl ?_
    refine r_iald (pc := 18) dX6_takeBack_18 rfl (show _ < 41 by omega) ?_
    refine r_iast (pc := 19) dX6_takeBack_19 rfl (show _ < 41 by omega) ?_
    first | refine r_inc [_, _] (pc := 20) dX6_takeBack_20 rfl (nI_inc _) (by decide) rfl rfl ?_ | refine r_inc [_, _] (pc := 20) dX6_takeBack_20 rfl rfl (by decide) rfl rfl ?_
    refine r_goto (tgt := 2) (pc := 23) dX6_takeBack_23 (by decide) ?_
    exact V.bk (ih (j + 1) (by omega) (by omega)) (by rw [mset_setA]; exact congrArg _ (pt_s _ _ _)) (by (repeat (first | exact wk_0 | refine wk_n ?_ | refine wk_s rfl ?_)); done)
set_option maxHeartbeats 4000000 in
set_option maxRecDepth 100000 in
theorem c_X6_goOn (l : Launch) (G : Gx) (M : Mem) (m n : Nat) (hm : m ≤ 60) (hn : M 4 2 = nI n) (hn6 : n ≤ 6) (hn1 : 0 < n) : Con l G yX6_goOn cX6_goOn 3 none 6 134 [.ref (gA G 0), .int (nI m)] M (rV (goM M n m)) := by
  refine Con.ofV [some (.ref (gA G 0)), some (.int (nI m)), none] RX6 (by decide) rfl (Nat.le_of_ble_eq_true rfl) rfl ?_
  intro κ hl hG hk0 hn0
  subst hl hG
  have hcs : κ.k ≤ 0 ∧ κ.n ≤ 0 := ⟨Nat.le_of_eq hk0, Nat.le_of_eq hn0⟩
  refine r_iconst (v := nI 0) (pc := 0) dX6_goOn_0 (by decide) ?_
  refine r_st_n [_, _, _] (pc := 1) dX6_goOn_1 (by decide) rfl rfl ?_
  refine V.bk (loopV (fun (σ : Nat) => V κ cX6_goOn RX6 3 none (rmx 6 134) (QM κ (rV (goM M n m))) (goM M n σ) 2 [some (.ref (gA κ.G 0)), some (.int (nI m)), some (.int (nI σ))] []) (fun (σ : Nat) => σ ≤ m) (fun (σ : Nat) => m - σ) ?_ 0 (Nat.zero_le _)) rfl (by (repeat (first | exact wk_0 | refine wk_n ?_ | refine wk_s rfl ?_)); done)
  rintro j hj ih
  show V κ cX6_goOn RX6 3 none (rmx 6 134) (QM κ (rV (goM M n m))) (goM M n j) 2 [some (.ref (gA κ.G 0)), some (.int (nI m)), some (.int (nI j))] []
  refine r_iload_n (pc := 2) dX6_goOn_2 rfl ?_
  refine r_iload_n (pc := 3) dX6_goOn_3 rfl ?_
  refine r_icmp_ge (tgt := 17) (pc := 4) dX6_goOn_4 (by decide) (fun h4 => ?_) (fun h4 => ?_)
  · have h4 : m ≤ j := (nI_leI (by omega) (by omega)).mp h4
    exact r_vret (pc := 17) dX6_goOn_17 rfl ⟨rfl, by rw [show j = m by omega]⟩
  · have h4 : j < m := Nat.not_le.mp (fun z => h4 ((nI_leI (by omega) (by omega)).mpr z))
    refine r_aload_n (pc := 7) dX6_goOn_7 rfl ?_
    refine iv_X6_175 (c_X6_oneNight _ _ _ n ((goM_2 M n j).trans hn) hn6 hn1) (pc := 8) dX6_goOn_8 rfl ⟨Nat.le_of_ble_eq_true rfl, Nat.le_of_ble_eq_true rfl⟩ (Nat.le_of_ble_eq_true rfl) hcs (kV ?_)
    first | refine r_inc [_, _, _] (pc := 11) dX6_goOn_11 rfl (nI_inc _) (by decide) rfl rfl ?_ | refine r_inc [_, _, _] (pc := 11) dX6_goOn_11 rfl rfl (by decide) rfl rfl ?_
    refine r_goto (tgt := 2) (pc := 14) dX6_goOn_14 (by decide) ?_
    exact ih (j + 1) (by omega) (by omega)
set_option maxHeartbeats 4000000 in
set_option maxRecDepth 100000 in
theorem c_X6_rankBy (l : Launch) (G : Gx) (M : Mem) (c m n : Nat) (hc : c < 6) (hm : m ≤ 60) (hn : M 4 2 = nI n) (hn6 : n ≤ 6) (hn1 : 0 < n) : Con l G yX6_rankBy cX6_rankBy 4 (some .int) 7 156 [.ref (gA G 0), .int (nI c), .int (nI m)] M (rI (nI (rankN (goM M n m 4) c n)) (backM (goM M n m))) := by
  refine Con.ofV [some (.ref (gA G 0)), some (.int (nI c)), some (.int (nI m)), none] RX6 (by decide) rfl (Nat.le_of_ble_eq_true rfl) rfl ?_
  intro κ hl hG hk0 hn0
  subst hl hG
  have hcs : κ.k ≤ 0 ∧ κ.n ≤ 0 := ⟨Nat.le_of_eq hk0, Nat.le_of_eq hn0⟩
  refine r_aload_n (pc := 0) dX6_rankBy_0 rfl ?_
  refine r_iload_n (pc := 1) dX6_rankBy_1 rfl ?_
  refine iv_X6_196 (c_X6_goOn _ _ _ _ n (by omega) hn hn6 hn1) (pc := 2) dX6_rankBy_2 rfl ⟨Nat.le_of_ble_eq_true rfl, Nat.le_of_ble_eq_true rfl⟩ (Nat.le_of_ble_eq_true rfl) hcs (kV ?_)
  refine r_aload_n (pc := 5) dX6_rankBy_5 rfl ?_
  refine r_iload_n (pc := 6) dX6_rankBy_6 rfl ?_
  refine iv_X6_150 (c_X6_rankOf _ _ _ _ n (by omega) ((goM_2 M n m).trans hn) hn6) (pc := 7) dX6_rankBy_7 rfl ⟨Nat.le_of_ble_eq_true rfl, Nat.le_of_ble_eq_true rfl⟩ (Nat.le_of_ble_eq_true rfl) hcs (kI ?_)
  refine r_st_n [_, _, _, _] (pc := 10) dX6_rankBy_10 (by decide) rfl rfl ?_
  refine r_aload_n (pc := 11) dX6_rankBy_11 rfl ?_
  refine iv_X6_199 (c_X6_takeBack _ _ _) (pc := 12) dX6_rankBy_12 rfl ⟨Nat.le_of_ble_eq_true rfl, Nat.le_of_ble_eq_true rfl⟩ (Nat.le_of_ble_eq_true rfl) hcs (kV ?_)
  refine r_iload_n (pc := 15) dX6_rankBy_15 rfl ?_
  exact r_iret (pc := 16) dX6_rankBy_16 rfl ⟨rfl, rfl⟩
set_option maxHeartbeats 4000000 in
set_option maxRecDepth 100000 in
theorem c_X6_glue (l : Launch) (G : Gx) (M : Mem) (k : Nat) (hk : k < 6) : Con l G yX6_glue cX6_glue 3 none 0 0 [.ref (gA G 0), .int (nI k)] M (rV (mset M 4 (11 + k) (glueV (M 4) k))) := by
  refine Con.ofV [some (.ref (gA G 0)), some (.int (nI k)), none] RX6 (by decide) rfl (Nat.le_of_ble_eq_true rfl) rfl ?_
  intro κ hl hG hk0 hn0
  subst hl hG
  have hcs : κ.k ≤ 0 ∧ κ.n ≤ 0 := ⟨Nat.le_of_eq hk0, Nat.le_of_eq hn0⟩
  refine r_aload_n (pc := 0) dX6_glue_0 rfl ?_
  refine gf_X6_19 (pc := 1) dX6_glue_1 rfl ?_
  refine r_bipush (v := nI 11) (pc := 4) dX6_glue_4 (by decide) ?_
  refine r_iload_n (pc := 6) dX6_glue_6 rfl ?_
  first | with_reducible refine r_iaddN (pc := 7) dX6_glue_7 ?_ | refine r_iadd (pc := 7) dX6_glue_7 ?_
  refine r_iald (pc := 8) dX6_glue_8 rfl (show _ < 41 by omega) ?_
  refine r_aload_n (pc := 9) dX6_glue_9 rfl ?_
  refine gf_X6_19 (pc := 10) dX6_glue_10 rfl ?_
  refine r_iconst (v := nI 1) (pc := 13) dX6_glue_13 (by decide) ?_
  refine r_iald (pc := 14) dX6_glue_14 rfl (show _ < 41 by omega) ?_
  first | with_reducible refine r_iaddN (pc := 15) dX6_glue_15 ?_ | refine r_iadd (pc := 15) dX6_glue_15 ?_
  refine r_st_n [_, _, _] (pc := 16) dX6_glue_16 (by decide) rfl rfl ?_
  refine r_aload_n (pc := 17) dX6_glue_17 rfl ?_
  refine gf_X6_19 (pc := 18) dX6_glue_18 rfl ?_
  refine r_bipush (v := nI 11) (pc := 21) dX6_glue_21 (by decide) ?_
  refine r_iload_n (pc := 23) dX6_glue_23 rfl ?_
  first | with_reducible refine r_iaddN (pc := 24) dX6_glue_24 ?_ | refine r_iadd (pc := 24) dX6_glue_24 ?_
  refine r_iload_n (pc := 25) dX6_glue_25 rfl ?_
  refine r_bipush (v := nI 60) (pc := 26) dX6_glue_26 (by decide) ?_
  refine t_icmp_le (tgt := 36) (J := 37) (a := ?pA28x1) (b := ?pB28x1) (pc := 28) dX6_glue_28 (by decide) (fun k28x1 => ?pT28x1) (fun k28x1 => ?pF28x1) ?pK28x1
  case pT28x1 =>
    refine r_iload_n (pc := 36) dX6_glue_36 rfl ?_
    exact k28x1
  case pF28x1 =>
    refine r_bipush (v := nI 60) (pc := 31) dX6_glue_31 (by decide) ?_
    refine r_goto (tgt := 37) (pc := 33) dX6_glue_33 (by decide) ?_
    exact k28x1
  case pK28x1 =>
    refine r_iast (pc := 37) dX6_glue_37 rfl (show _ < 41 by omega) ?_
    exact r_vret (pc := 38) dX6_glue_38 rfl ⟨rfl, rfl⟩
set_option maxHeartbeats 4000000 in
set_option maxRecDepth 100000 in
theorem c_X6_exchange (l : Launch) (G : Gx) (M : Mem) (p a b : Nat) (hp : p ≤ 35) (ha : a < 6) (hb : b < 6) : Con l G yX6_exchange cX6_exchange 5 none 0 0 [.ref (gA G 0), .int (nI p), .int (nI a), .int (nI b)] M (rV (setA M 4 (exchA (M 4) (p + a) (p + b)))) := by
  refine Con.ofV [some (.ref (gA G 0)), some (.int (nI p)), some (.int (nI a)), some (.int (nI b)), none] RX6 (by decide) rfl (Nat.le_of_ble_eq_true rfl) rfl ?_
  intro κ hl hG hk0 hn0
  subst hl hG
  have hcs : κ.k ≤ 0 ∧ κ.n ≤ 0 := ⟨Nat.le_of_eq hk0, Nat.le_of_eq hn0⟩
  refine r_aload_n (pc := 0) dX6_exchange_0 rfl ?_
  refine gf_X6_19 (pc := 1) dX6_exchange_1 rfl ?_
  refine r_iload_n (pc := 4) dX6_exchange_4 rfl ?_
  refine r_iload_n (pc := 5) dX6_exchange_5 rfl ?_
  first | with_reducible refine r_iaddN (pc := 6) dX6_exchange_6 ?_ | refine r_iadd (pc := 6) dX6_exchange_6 ?_
  refine r_iald (pc := 7) dX6_exchange_7 rfl (show _ < 41 by omega) ?_
  refine r_st [_, _, _, _, _] (pc := 8) dX6_exchange_8 (by decide) rfl rfl ?_
  refine r_aload_n (pc := 10) dX6_exchange_10 rfl ?_
  refine gf_X6_19 (pc := 11) dX6_exchange_11 rfl ?_
  refine r_iload_n (pc := 14) dX6_exchange_14 rfl ?_
  refine r_iload_n (pc := 15) dX6_exchange_15 rfl ?_
  first | with_reducible refine r_iaddN (pc := 16) dX6_exchange_16 ?_ | refine r_iadd (pc := 16) dX6_exchange_16 ?_
  refine r_aload_n (pc := 17) dX6_exchange_17 rfl ?_
  refine gf_X6_19 (pc := 18) dX6_exchange_18 rfl ?_
  refine r_iload_n (pc := 21) dX6_exchange_21 rfl ?_
  refine r_iload_n (pc := 22) dX6_exchange_22 rfl ?_
  first | with_reducible refine r_iaddN (pc := 23) dX6_exchange_23 ?_ | refine r_iadd (pc := 23) dX6_exchange_23 ?_
  refine r_iald (pc := 24) dX6_exchange_24 rfl (show _ < 41 by omega) ?_
  refine r_iast (pc := 25) dX6_exchange_25 rfl (show _ < 41 by omega) ?_
  refine r_aload_n (pc := 26) dX6_exchange_26 rfl ?_
  refine gf_X6_19 (pc := 27) dX6_exchange_27 rfl ?_
  refine r_iload_n (pc := 30) dX6_exchange_30 rfl ?_
  refine r_iload_n (pc := 31) dX6_exchange_31 rfl ?_
  first | with_reducible refine r_iaddN (pc := 32) dX6_exchange_32 ?_ | refine r_iadd (pc := 32) dX6_exchange_32 ?_
  refine r_iload (pc := 33) dX6_exchange_33 rfl ?_
  refine r_iast (pc := 35) dX6_exchange_35 rfl (show _ < 41 by omega) ?_
  exact r_vret (pc := 36) dX6_exchange_36 rfl ⟨rfl, by unfold mset; rw [setA_setA, setA_eq]; rfl⟩
set_option maxHeartbeats 4000000 in
set_option maxRecDepth 100000 in
theorem c_X6_note (l : Launch) (G : Gx) (M : Mem) (a : Nat) (ha : M 0 19 = nI a) (ha24 : a ≤ 24) : Con l G yX6_note cX6_note 2 none 0 0 [.ref (gA G 0)] M (rV (noteM M a)) := by
  refine Con.ofV [some (.ref (gA G 0)), none] RX6 (by decide) rfl (Nat.le_of_ble_eq_true rfl) rfl ?_
  intro κ hl hG hk0 hn0
  subst hl hG
  have hcs : κ.k ≤ 0 ∧ κ.n ≤ 0 := ⟨Nat.le_of_eq hk0, Nat.le_of_eq hn0⟩
  have J49 : ∀ (b : Nat) (N : Mem), b < 24 → N 0 19 = nI b → noteN N b = noteM M a → V κ cX6_note RX6 2 none (rmx 0 0) (QM κ (rV (noteM M a))) N 49 [some (.ref (gA κ.G 0)), none] [] := by
    intro b N hb24 hb hN
    refine r_iconst (v := nI 0) (pc := 49) dX6_note_49 (by decide) ?_
    refine r_st_n [_, _] (pc := 50) dX6_note_50 (by decide) rfl rfl ?_
    refine V.bk (loopV (fun (σ : Nat) => V κ cX6_note RX6 2 none (rmx 0 0) (QM κ (rV (noteM M a))) (setA N 9 (fb_put (N 9) (N 4) (41 * b) σ)) 51 [some (.ref (gA κ.G 0)), some (.int (nI σ))] []) (fun (σ : Nat) => σ ≤ 41) (fun (σ : Nat) => 41 - σ) ?_ 0 (Nat.zero_le _)) (by rw [fb_put_0, setA_id]) (by (repeat (first | exact wk_0 | refine wk_n ?_ | refine wk_s rfl ?_)); done)
    rintro j hj ih
    show V κ cX6_note RX6 2 none (rmx 0 0) (QM κ (rV (noteM M a))) (setA N 9 (fb_put (N 9) (N 4) (41 * b) j)) 51 [some (.ref (gA κ.G 0)), some (.int (nI j))] []
    refine r_iload_n (pc := 51) dX6_note_51 rfl ?_
    refine r_bipush (v := nI 41) (pc := 52) dX6_note_52 (by decide) ?_
    refine r_icmp_ge (tgt := 83) (pc := 54) dX6_note_54 (by decide) (fun h54 => ?_) (fun h54 => ?_)
    · have h54 : 41 ≤ j := (nI_leI (by omega) (by omega)).mp h54
      refine r_aload_n (pc := 83) dX6_note_83 rfl ?_
      refine r_dup (pc := 84) dX6_note_84 rfl ?_
      refine gf_X6_139 (pc := 85) dX6_note_85 rfl ?_
      refine r_is (nI b) hb ?_
      refine r_iconst (v := nI 1) (pc := 88) dX6_note_88 (by decide) ?_
      first | with_reducible refine r_iaddN (pc := 89) dX6_note_89 ?_ | refine r_iadd (pc := 89) dX6_note_89 ?_
      refine pf_X6_139 (pc := 90) dX6_note_90 rfl ?_
      exact r_vret (pc := 93) dX6_note_93 rfl ⟨rfl, by rw [mset_setA_ne _ _ _ _ _ _ (by decide), ← hN, show j = 41 by omega]; rfl⟩
    · have h54 : j < 41 := Nat.not_le.mp (fun z => h54 ((nI_leI (by omega) (by omega)).mpr z))
      refine r_aload_n (pc := 57) dX6_note_57 rfl ?_
      refine gf_X6_34 (pc := 58) dX6_note_58 rfl ?_
      refine r_bipush (v := nI 41) (pc := 61) dX6_note_61 (by decide) ?_
      refine r_aload_n (pc := 63) dX6_note_63 rfl ?_
      refine gf_X6_139 (pc := 64) dX6_note_64 rfl ?_
      refine r_is (nI b) hb ?_
      first | with_reducible refine r_imulN (pc := 67) dX6_note_67 ?_ | refine r_imul (pc := 67) dX6_note_67 ?_
      refine r_iload_n (pc := 68) dX6_note_68 rfl ?_
      first | with_reducible refine r_iaddN (pc := 69) dX6_note_69 ?_ | refine r_iadd (pc := 69) dX6_note_69 ?_
      refine r_aload_n (pc := 70) dX6_note_70 rfl ?_
      refine gf_X6_19 (pc := 71) dX6_note_71 rfl ?_
      refine r_iload_n (pc := 74) dX6_note_74 rfl ?_
      refine r_iald (pc := 75) dX6_note_75 rfl (show _ < 41 by omega) ?_
      refine r_iast (pc := 76) dX6_note_76 rfl (show _ < 984 by omega) ?_
      first | refine r_inc [_, _] (pc := 77) dX6_note_77 rfl (nI_inc _) (by decide) rfl rfl ?_ | refine r_inc [_, _] (pc := 77) dX6_note_77 rfl rfl (by decide) rfl rfl ?_
      refine r_goto (tgt := 51) (pc := 80) dX6_note_80 (by decide) ?_
      exact V.bk (ih (j + 1) (by omega) (by omega)) (by rw [mset_setA]; exact congrArg _ (fb_put_succ _ _ _ _)) (by (repeat (first | exact wk_0 | refine wk_n ?_ | refine wk_s rfl ?_)); done)
  refine r_aload_n (pc := 0) dX6_note_0 rfl ?_
  refine gf_X6_139 (pc := 1) dX6_note_1 rfl ?_
  refine r_is (nI a) ha ?_
  refine r_bipush (v := nI 24) (pc := 4) dX6_note_4 (by decide) ?_
  refine r_icmp_ne (tgt := 49) (pc := 6) dX6_note_6 (by decide) (fun h6 => ?_) (fun h6 => ?_)
  · have h6 : a ≠ 24 := fun z => h6 (by rw [z])
    first
      | exact V.bk (J49 a M (by omega) ha (by rw [noteM, if_neg h6])) rfl (by (repeat (first | exact wk_0 | refine wk_n ?_ | refine wk_s rfl ?_)); done)
      | exact V.bk (J49 23 _ (by omega) rfl (by rw [noteM, if_pos h6])) (by rw [show j = 943 by omega]) (by (repeat (first | exact wk_0 | refine wk_n ?_ | refine wk_s rfl ?_)); done)
  · have h6 : a = 24 := (nI_eq (by omega) (by omega)).mp h6
    refine r_iconst (v := nI 0) (pc := 9) dX6_note_9 (by decide) ?_
    refine r_st_n [_, _] (pc := 10) dX6_note_10 (by decide) rfl rfl ?_
    refine V.bk (loopV (fun (σ : Nat) => V κ cX6_note RX6 2 none (rmx 0 0) (QM κ (rV (noteM M a))) (setA M 9 (shf (M 9) σ)) 11 [some (.ref (gA κ.G 0)), some (.int (nI σ))] []) (fun (σ : Nat) => σ ≤ 943) (fun (σ : Nat) => 943 - σ) ?_ 0 (Nat.zero_le _)) (by rw [shf_0, setA_id]) (by (repeat (first | exact wk_0 | refine wk_n ?_ | refine wk_s rfl ?_)); done)
    rintro j hj ih
    show V κ cX6_note RX6 2 none (rmx 0 0) (QM κ (rV (noteM M a))) (setA M 9 (shf (M 9) j)) 11 [some (.ref (gA κ.G 0)), some (.int (nI j))] []
    refine r_iload_n (pc := 11) dX6_note_11 rfl ?_
    refine r_sipush (v := nI 943) (pc := 12) dX6_note_12 (by decide) ?_
    refine r_icmp_ge (tgt := 39) (pc := 15) dX6_note_15 (by decide) (fun h15 => ?_) (fun h15 => ?_)
    · have h15 : 943 ≤ j := (nI_leI (by omega) (by omega)).mp h15
      refine r_aload_n (pc := 39) dX6_note_39 rfl ?_
      refine r_dup (pc := 40) dX6_note_40 rfl ?_
      refine gf_X6_139 (pc := 41) dX6_note_41 rfl ?_
      refine r_is (nI 24) (ha.trans (by rw [h6])) ?_
      refine r_iconst (v := nI 1) (pc := 44) dX6_note_44 (by decide) ?_
      first | (with_reducible refine r_isubN (pc := 45) dX6_note_45 ?hle ?_; case hle => omega) | refine r_isub (pc := 45) dX6_note_45 ?_
      refine pf_X6_139 (pc := 46) dX6_note_46 rfl ?_
      first
        | exact V.bk (J49 a M (by omega) ha (by rw [noteM, if_neg h6])) rfl (by (repeat (first | exact wk_0 | refine wk_n ?_ | refine wk_s rfl ?_)); done)
        | exact V.bk (J49 23 _ (by omega) rfl (by rw [noteM, if_pos h6])) (by rw [show j = 943 by omega]) (by (repeat (first | exact wk_0 | refine wk_n ?_ | refine wk_s rfl ?_)); done)
    · have h15 : j < 943 := Nat.not_le.mp (fun z => h15 ((nI_leI (by omega) (by omega)).mpr z))
      refine r_aload_n (pc := 18) dX6_note_18 rfl ?_
      refine gf_X6_34 (pc := 19) dX6_note_19 rfl ?_
      refine r_iload_n (pc := 22) dX6_note_22 rfl ?_

      refine r_aload_n (pc := 23) dX6_note_23 rfl ?_
      refine gf_X6_34 (pc := 24) dX6_note_24 rfl ?_
      refine r_iload_n (pc := 27) dX6_note_27 rfl ?_
      refine r_bipush (v := nI 41) (pc := 28) dX6_note_28 (by decide) ?_
      first | with_reducible refine r_iaddN (pc := 30) dX6_note_30 ?_ | refine r_iadd (pc := 30) dX6_note_30 ?_
      refine r_iald (pc := 31) dX6_note_31 rfl (show _ < 984 by omega) ?_
      refine r_is (M 9 (j + 41)) (if_neg (by omega)) ?_
      refine r_iast (pc := 32) dX6_note_32 rfl (show _ < 984 by omega) ?_
      first | refine r_inc [_, _] (pc := 33) dX6_note_33 rfl (nI_inc _) (by decide) rfl rfl ?_ | refine r_inc [_, _] (pc := 33) dX6_note_33 rfl rfl (by decide) rfl rfl ?_
      refine r_goto (tgt := 11) (pc := 36) dX6_note_36 (by decide) ?_
      exact V.bk (ih (j + 1) (by omega) (by omega)) (by rw [mset_setA]; exact congrArg _ (shf_s _ _)) (by (repeat (first | exact wk_0 | refine wk_n ?_ | refine wk_s rfl ?_)); done)
