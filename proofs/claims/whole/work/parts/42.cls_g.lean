def sF (F : Nat → Nat) : Nat → Nat
  | 0 => 0
  | g + 1 => sF F g + F g
theorem sF_hd (F : Nat → Nat) : ∀ m, sF F (m + 1) = F 0 + sF (fun i => F (i + 1)) m
  | 0 => by rw [sF, sF, sF]; omega
  | m + 1 => by
    have h := sF_hd F m
    rw [sF, h, sF]
    omega
theorem sF_cong {F K : Nat → Nat} : ∀ m, (∀ i, i < m → F i = K i) → sF F m = sF K m
  | 0, _ => rfl
  | m + 1, h => by rw [sF, sF, sF_cong m (fun i hi => h i (by omega)), h m (by omega)]
theorem sF_rev (F : Nat → Nat) : ∀ m, sF F m = sF (fun i => F (m - 1 - i)) m
  | 0 => rfl
  | m + 1 => by
    rw [sF_hd (fun i => F (m + 1 - 1 - i)) m, sF, sF_rev F m, Nat.add_comm]
    congr 1
    exact sF_cong m (fun i hi => by show F (m - 1 - i) = F (m + 1 - 1 - (i + 1)); congr 1; omega)
theorem sF_ext (F : Nat → Nat) (m : Nat) : ∀ d, (∀ i, m ≤ i → i < m + d → F i = 0) → sF F (m + d) = sF F m
  | 0, _ => rfl
  | d + 1, h => by
    show sF F (m + d) + F (m + d) = sF F m
    rw [h (m + d) (by omega) (by omega), sF_ext F m d (fun i h1 h2 => h i h1 (by omega))]
    rfl
/-- the term that the set i gives -/
def tmN (w : Int32) (pt0 : Nat → Nat) (bad : Nat → Bool) (i : Nat) : Nat := if nI i &&& (w ^^^ -1) = 0 then (if bad i = true then 0 else pt0 i) else 0
theorem abN_sF (w : Int32) (pt0 : Nat → Nat) (bad : Nat → Bool) : ∀ g, abN w pt0 bad g = sF (tmN w pt0 bad) g
  | 0 => rfl
  | g + 1 => by
    rw [abN, sF, tmN, abN_sF w pt0 bad g]
    split <;> omega
theorem sub_d : ∀ w : Nat, w < 64 → ∀ i : Nat, i < 64 → decide (nI i &&& (nI w ^^^ -1) = 0) = decide (i &&& w = i) := by decide +kernel
theorem sub_iff {w i : Nat} (hw : w < 64) (hi : i < 64) : nI i &&& (nI w ^^^ -1) = 0 ↔ i &&& w = i := decide_eq_decide.mp (sub_d w hw i hi)
theorem sub_le {w i : Nat} (h : i &&& w = i) : i ≤ w := by rw [← h]; exact Nat.and_le_right
theorem sub_c0 : ∀ w : Nat, w < 64 → ∀ i : Nat, i < 64 → (¬ i &&& w = i) ∨ ((w - i) &&& w = w - i ∧ nI w &&& (nI i ^^^ -1) = nI (w - i)) := by decide +kernel
theorem sub_c {w i : Nat} (hw : w < 64) (hi : i < 64) (h : i &&& w = i) : (w - i) &&& w = w - i ∧ nI w &&& (nI i ^^^ -1) = nI (w - i) := (sub_c0 w hw i hi).resolve_left (fun z => z h)
theorem has_t0 : ∀ w : Nat, w < 64 → ∀ c : Nat, c < 6 → decide (hasB (nI w) (nI c)) = w.testBit c := by decide +kernel
theorem has_t {w c : Nat} (hw : w < 64) (hc : c < 6) : hasB (nI w) (nI c) ↔ w.testBit c = true := by rw [← has_t0 w hw c hc, decide_eq_true_iff]
theorem sub_b0 : ∀ w : Nat, w < 64 → ∀ i : Nat, i < 64 → (¬ i &&& w = i) ∨ ∀ c : Nat, c < 6 → (w - i).testBit c = (w.testBit c && !i.testBit c) := by decide +kernel
theorem sub_b {w i c : Nat} (hw : w < 64) (hi : i < 64) (h : i &&& w = i) (hc : c < 6) : (w - i).testBit c = (w.testBit c && !i.testBit c) := (sub_b0 w hw i hi).resolve_left (fun z => z h) c hc
theorem ptN_c {w i p : Nat} (hw : w < 64) (hi : i < 64) (h : i &&& w = i) (hp : p ≤ 10) : ∀ c, c ≤ 6 → ptN (nI w) (nI i) p c = ptN (nI w) (nI (w - i)) (10 - p) c
  | 0, _ => rfl
  | c + 1, hc => by
    rw [ptN, ptN, ptN_c hw hi h hp c (by omega)]
    congr 1
    by_cases hb : hasB (nI w) (nI c)
    · rw [if_pos hb, if_pos hb]
      have e := sub_b hw hi h (show c < 6 by omega)
      rw [(has_t hw (show c < 6 by omega)).mp hb, Bool.true_and] at e
      by_cases hd : hasB (nI i) (nI c)
      · rw [if_pos hd, if_neg (fun z => by rw [has_t (by omega) (by omega), e, (has_t hi (show c < 6 by omega)).mp hd] at z; exact absurd z (by decide))]
        omega
      · have hf : i.testBit c = false := Bool.eq_false_iff.mpr (fun z => hd ((has_t hi (by omega)).mpr z))
        rw [if_neg hd, if_pos (by rw [has_t (by omega) (by omega), e, hf]; rfl)]
    · rw [if_neg hb, if_neg hb]
theorem dz_rev {w n p : Nat} {bad bad2 : Nat → Bool} (hw : w < 64) (hn : n ≤ 6) (hwn : w < 2 ^ n) (hp : p ≤ 10) (hb : ∀ i, i &&& w = i → bad i = bad2 (w - i)) :
    abN (nI w) (fun i => ptN (nI w) (nI i) p n) bad (w + 1) = abN (nI w) (fun i => ptN (nI w) (nI i) (10 - p) n) bad2 (2 ^ n) := by
  have h6 := two6 n hn
  rw [abN_sF, abN_sF, show 2 ^ n = (w + 1) + (2 ^ n - (w + 1)) by omega, sF_ext _ (w + 1) _ (fun i h1 h2 => by rw [tmN, if_neg (fun z => by have := sub_le ((sub_iff hw (by omega)).mp z); omega)]), sF_rev _ (w + 1)]
  refine (sF_cong (w + 1) (fun i hi => ?_)).symm
  show _ = tmN _ _ _ (w + 1 - 1 - i)
  rw [show w + 1 - 1 - i = w - i by omega]
  unfold tmN
  by_cases z : i &&& w = i
  · obtain ⟨c1, c2⟩ := sub_c hw (by omega) z
    have e := hb (w - i) c1
    rw [show w - (w - i) = i by omega] at e
    have e2 := ptN_c (p := p) (i := w - i) hw (by omega) c1 hp n hn
    rw [show w - (w - i) = i by omega] at e2
    rw [if_pos ((sub_iff hw (by omega)).mpr z), if_pos ((sub_iff hw (by omega)).mpr c1), e]
    dsimp only
    rw [e2]
  · rw [if_neg (fun y => z ((sub_iff hw (by omega)).mp y)), if_neg (fun y => z (by
      have c1 := sub_c hw (by omega) ((sub_iff hw (by omega)).mp y)
      rw [show w - (w - i) = i by omega] at c1
      exact c1.1))]
def awT (w g p : Nat) : Nat → Nat
  | 0 => 1
  | c + 1 => awT w g p c * (if w.testBit c = true then (if g.testBit c = true then p else 10 - p) else 1)
def sbT (w p n : Nat) : Nat → Nat
  | 0 => 0
  | g + 1 => if g &&& w = g then sbT w p n g + awT w g p n else sbT w p n g
def blT (w : Nat) : Nat → Nat
  | 0 => 1
  | c + 1 => blT w c * (if w.testBit c = true then 10 else 1)
theorem sb_bl : ∀ p : Nat, p < 11 → ∀ n : Nat, n < 7 → ∀ w : Nat, w < 2 ^ n → sbT w p n (2 ^ n) = blT w n := by decide +kernel
theorem awT_pt {w g p : Nat} (hw : w < 64) (hg : g < 64) : ∀ c, c ≤ 6 → ptN (nI w) (nI g) p c = awT w g p c
  | 0, _ => rfl
  | c + 1, hc => by
    rw [ptN, awT, awT_pt hw hg c (by omega)]
    congr 1
    by_cases hb : hasB (nI w) (nI c)
    · rw [if_pos hb, if_pos ((has_t hw (by omega)).mp hb)]
      by_cases hd : hasB (nI g) (nI c)
      · rw [if_pos hd, if_pos ((has_t hg (by omega)).mp hd)]
      · rw [if_neg hd, if_neg (fun z => hd ((has_t hg (by omega)).mpr z))]
    · rw [if_neg hb, if_neg (fun z => hb ((has_t hw (by omega)).mpr z))]
theorem blT_bl {w : Nat} (hw : w < 64) : ∀ c, c ≤ 6 → blN (nI w) c = blT w c
  | 0, _ => rfl
  | c + 1, hc => by
    rw [blN, blT, blT_bl hw c (by omega)]
    congr 1
    by_cases hb : hasB (nI w) (nI c)
    · rw [if_pos hb, if_pos ((has_t hw (by omega)).mp hb)]
    · rw [if_neg hb, if_neg (fun z => hb ((has_t hw (by omega)).mpr z))]
theorem sbT_ab {w p n : Nat} (hw : w < 64) (hn : n ≤ 6) : ∀ g, g ≤ 64 → abN (nI w) (fun i => ptN (nI w) (nI i) p n) (fun _ => false) g = sbT w p n g
  | 0, _ => rfl
  | g + 1, hg => by
    rw [abN, sbT, sbT_ab hw hn g (by omega)]
    by_cases h : g &&& w = g
    · rw [if_pos h, if_pos ((sub_iff hw (by omega)).mpr h), if_neg (by decide), awT_pt hw (by omega) n hn]
    · rw [if_neg h, if_neg (fun z => h ((sub_iff hw (by omega)).mp z))]
theorem dz_all {w n p : Nat} (hw : w < 64) (hn : n ≤ 6) (hwn : w < 2 ^ n) (hp : p ≤ 10) : abN (nI w) (fun i => ptN (nI w) (nI i) p n) (fun _ => false) (2 ^ n) = blN (nI w) n := by
  rw [sbT_ab hw hn _ (two6 n hn), blT_bl hw n hn, sb_bl p (by omega) n (by omega) w hwn]
theorem eu_s {x y j : Nat} (hy : 0 < y) (hyx : y < x) (h : x * y * 2 ^ j ≤ 2 ^ 55) : y * (x % y) * 2 ^ (j + 1) ≤ 2 ^ 55 := by
  have h2 : 2 * (x % y) ≤ x := by
    have a1 := Nat.div_add_mod x y
    have a2 := Nat.mod_lt x hy
    have a3 : y * 1 ≤ y * (x / y) := Nat.mul_le_mul_left y (Nat.div_pos (Nat.le_of_lt hyx) hy)
    omega
  have e : y * (x % y) * 2 ^ (j + 1) = y * (2 * (x % y)) * 2 ^ j := by rw [Nat.pow_succ]; ac_rfl
  rw [e]
  refine Nat.le_trans (Nat.mul_le_mul_right _ (Nat.mul_le_mul_left y h2)) ?_
  rw [Nat.mul_comm y x]
  exact h
theorem eu_1 {x y : Nat} (hy : 0 < y) (h1 : x ≤ 100000000) (h2 : y ≤ 100000000) : y * (x % y) * 2 ^ (0 + 1) ≤ 2 ^ 55 := by
  have a1 := Nat.mod_le x y
  have := Nat.mul_le_mul h2 (Nat.le_trans a1 h1)
  omega
theorem eu_0 {x y : Nat} (hyx : y < x) (h : x * y * 2 ^ 100 ≤ 2 ^ 55) : y = 0 := by
  refine Classical.byContradiction (fun z => ?_)
  have h1 : 1 * 1 ≤ x * y := Nat.mul_le_mul (by omega) (by omega)
  omega
def eui (a b x y j : Nat) : Prop := x ≤ 100000000 ∧ y ≤ 100000000 ∧ Nat.gcd x y = Nat.gcd a b ∧ (j = 0 ∨ (y < x ∧ x * y * 2 ^ j ≤ 2 ^ 55))
theorem eui_s {a b x y j : Nat} (h : eui a b x y j) (hy : 0 < y) : eui a b y (x % y) (j + 1) := by
  obtain ⟨h1, h2, h3, h4⟩ := h
  refine ⟨h2, Nat.le_trans (Nat.mod_le _ _) h1, by rw [← h3, Nat.gcd_comm x y, Nat.gcd_rec y x, Nat.gcd_comm], Or.inr ⟨Nat.mod_lt _ hy, ?_⟩⟩
  rcases h4 with rfl | ⟨h4, h5⟩
  · exact eu_1 hy h1 h2
  · exact eu_s hy h4 h5
theorem eui_e {a b x y : Nat} (h : eui a b x y 100) : x = Nat.gcd a b := by
  obtain ⟨h1, h2, h3, h4⟩ := h
  have z := h4.resolve_left (by omega)
  rw [eu_0 z.1 z.2, Nat.gcd_zero_right] at h3
  exact h3
set_option maxHeartbeats 4000000 in
set_option maxRecDepth 100000 in
theorem c_X5_commonDivisor (l : Launch) (G : Gx) (M : Mem) (a b : Nat) (ha : a ≤ 100000000) (hb : b ≤ 100000000) : Con l G yX5_commonDivisor cX5_commonDivisor 11 (some .long) 0 0 [.long (lN a), .long (lN b)] M (rL (lN (Nat.gcd a b)) M) := by
  refine Con.ofV [some (.long (lN a)), none, some (.long (lN b)), none, none, none, none, none, none, none, none] RX5 (by decide) rfl (Nat.le_of_ble_eq_true rfl) rfl ?_
  intro κ hl hG hk0 hn0
  subst hl hG
  have hcs : κ.k ≤ 0 ∧ κ.n ≤ 0 := ⟨Nat.le_of_eq hk0, Nat.le_of_eq hn0⟩
  refine r_lload_n (pc := 0) dX5_commonDivisor_0 rfl ?_
  refine r_lst [_, _, _, _, _, _, _, _, _, _, _] (pc := 1) dX5_commonDivisor_1 (by decide) rfl rfl ?_
  refine r_lload_n (pc := 3) dX5_commonDivisor_3 rfl ?_
  refine r_lst [_, _, _, _, _, _, _, _, _, _, _] (pc := 4) dX5_commonDivisor_4 (by decide) rfl rfl ?_
  refine r_iconst (v := nI 0) (pc := 6) dX5_commonDivisor_6 (by decide) ?_
  refine r_st [_, _, _, _, _, _, _, _, _, _, _] (pc := 7) dX5_commonDivisor_7 (by decide) rfl rfl ?_
  refine V.bk (loopV (fun (σ : Nat × Nat × Nat) => V κ cX5_commonDivisor RX5 11 (some .long) (rmx 0 0) (QM κ (rL (lN (Nat.gcd a b)) M)) M 9 [some (.long (lN a)), none, some (.long (lN b)), none, some (.long (lN (σ.1))), none, some (.long (lN (σ.2.1))), none, some (.int (nI (σ.2.2))), none, none] []) (fun (σ : Nat × Nat × Nat) => (σ.2.2) ≤ 100 ∧ eui a b (σ.1) (σ.2.1) (σ.2.2)) (fun (σ : Nat × Nat × Nat) => 100 - (σ.2.2)) ?_ (a, b, 0) ⟨Nat.zero_le _, ha, hb, rfl, Or.inl rfl⟩) rfl (by (repeat (first | exact wk_0 | refine wk_n ?_ | refine wk_s rfl ?_)); done)
  rintro ⟨x, y, j⟩ hI0 ih
  dsimp only at hI0 ih
  obtain ⟨hj, hI⟩ := hI0
  show V κ cX5_commonDivisor RX5 11 (some .long) (rmx 0 0) (QM κ (rL (lN (Nat.gcd a b)) M)) M 9 [some (.long (lN a)), none, some (.long (lN b)), none, some (.long (lN x)), none, some (.long (lN y)), none, some (.int (nI j)), none, none] []
  refine r_iload (pc := 9) dX5_commonDivisor_9 rfl ?_
  refine r_bipush (v := nI 100) (pc := 11) dX5_commonDivisor_11 (by decide) ?_
  refine r_icmp_ge (tgt := 44) (pc := 13) dX5_commonDivisor_13 (by decide) (fun h13 => ?_) (fun h13 => ?_)
  · have hj2 : j = 100 := by have := (nI_leI (by omega) (by omega)).mp h13; omega
    subst hj2
    have hx := eui_e hI
    refine r_lload (pc := 44) dX5_commonDivisor_44 rfl ?_
    exact r_lret (pc := 46) dX5_commonDivisor_46 rfl ⟨by rw [hx], rfl⟩
  · have hj2 : j < 100 := Nat.not_le.mp (fun z => h13 (nI_le z (by omega)))
    have hI1 := hI.1
    have hI2 := hI.2.1
    refine r_lload (pc := 16) dX5_commonDivisor_16 rfl ?_
    refine r_lconst (v := (nI 0).toInt64) (pc := 18) dX5_commonDivisor_18 (by decide) ?_
    refine r_lcmp (pc := 19) dX5_commonDivisor_19 ?_
    refine r_if_eq (tgt := 44) (pc := 20) dX5_commonDivisor_20 (by decide) (fun h20 => ?_) (fun h20 => ?_)
    · have h20 : y = 0 := (fb_lN_inj (by omega) (by omega)).mp ((lg_cmp_eq _ _).mp h20)
      have hx : x = Nat.gcd a b := by have z := hI.2.2.1; rw [h20, Nat.gcd_zero_right] at z; exact z
      refine r_lload (pc := 44) dX5_commonDivisor_44 rfl ?_
      exact r_lret (pc := 46) dX5_commonDivisor_46 rfl ⟨by rw [hx], rfl⟩
    · have h20 : 0 < y := Nat.pos_of_ne_zero (fun z => h20 ((lg_cmp_eq _ _).mpr (by rw [z]; rfl)))
      refine r_lload (pc := 23) dX5_commonDivisor_23 rfl ?_
      refine r_lload (pc := 25) dX5_commonDivisor_25 rfl ?_
      refine r_lrem (pc := 27) dX5_commonDivisor_27 (by (exact lN_ne h20 (by omega))) ?_
      refine r_isL (lN (x % y)) (pk_lRem (by omega) h20 (by omega)) ?_
      refine r_lst [_, _, _, _, _, _, _, _, _, _, _] (pc := 28) dX5_commonDivisor_28 (by decide) rfl rfl ?_
      refine r_lload (pc := 30) dX5_commonDivisor_30 rfl ?_
      refine r_lst [_, _, _, _, _, _, _, _, _, _, _] (pc := 32) dX5_commonDivisor_32 (by decide) rfl rfl ?_
      refine r_lload (pc := 34) dX5_commonDivisor_34 rfl ?_
      refine r_lst [_, _, _, _, _, _, _, _, _, _, _] (pc := 36) dX5_commonDivisor_36 (by decide) rfl rfl ?_
      first | refine r_inc [_, _, _, _, _, _, _, _, _, _, _] (pc := 38) dX5_commonDivisor_38 rfl (nI_inc _) (by decide) rfl rfl ?_ | refine r_inc [_, _, _, _, _, _, _, _, _, _, _] (pc := 38) dX5_commonDivisor_38 rfl rfl (by decide) rfl rfl ?_
      refine r_goto (tgt := 9) (pc := 41) dX5_commonDivisor_41 (by decide) ?_
      exact V.bk (ih (y, x % y, j + 1) ⟨by dsimp only; omega, eui_s hI h20⟩ (by dsimp only; omega)) rfl (by (repeat (first | exact wk_0 | refine wk_n ?_ | refine wk_s rfl ?_)); done)
set_option maxHeartbeats 4000000 in
set_option maxRecDepth 100000 in
theorem c_X5_weightOf (l : Launch) (G : Gx) (M : Mem) (g p w : Nat) (hg : g < 64) (hp : p ≤ 10) (hw64 : w < 64) (S : Nat → Int32) (n : Nat) (hm : ms 18 n S M) (hR : Rg n S) (hw : S 4 = nI w) : Con l G yX5_weightOf cX5_weightOf 6 (some .long) 1 21 [.ref (gA G 14), .int (nI g), .int (nI p)] M (rL (lN (ptN (nI w) (nI g) (10 - p) n)) M) := by
  refine Con.ofV [some (.ref (gA G 14)), some (.int (nI g)), some (.int (nI p)), none, none, none] RX5 (by decide) rfl (Nat.le_of_ble_eq_true rfl) rfl ?_
  intro κ hl hG hk0 hn0
  subst hl hG
  have hcs : κ.k ≤ 0 ∧ κ.n ≤ 0 := ⟨Nat.le_of_eq hk0, Nat.le_of_eq hn0⟩
  have hn := hm.1
  have hn6 := hR.1
  refine r_lconst (v := (nI 1).toInt64) (pc := 0) dX5_weightOf_0 (by decide) ?_
  refine r_lst_n [_, _, _, _, _, _] (pc := 1) dX5_weightOf_1 (by decide) rfl rfl ?_
  refine r_iconst (v := nI 0) (pc := 2) dX5_weightOf_2 (by decide) ?_
  refine r_st [_, _, _, _, _, _] (pc := 3) dX5_weightOf_3 (by decide) rfl rfl ?_
  refine V.bk (loopV (fun (σ : Nat) => V κ cX5_weightOf RX5 6 (some .long) (rmx 1 21) (QM κ (rL (lN (ptN (nI w) (nI g) (10 - p) n)) M)) M 5 [some (.ref (gA κ.G 14)), some (.int (nI g)), some (.int (nI p)), some (.long (lN (ptN (nI w) (nI g) (10 - p) σ))), none, some (.int (nI σ))] []) (fun (σ : Nat) => σ ≤ n) (fun (σ : Nat) => n - σ) ?_ 0 (Nat.zero_le _)) rfl (by (repeat (first | exact wk_0 | refine wk_n ?_ | refine wk_s rfl ?_)); done)
  rintro j hj ih
  show V κ cX5_weightOf RX5 6 (some .long) (rmx 1 21) (QM κ (rL (lN (ptN (nI w) (nI g) (10 - p) n)) M)) M 5 [some (.ref (gA κ.G 14)), some (.int (nI g)), some (.int (nI p)), some (.long (lN (ptN (nI w) (nI g) (10 - p) j))), none, some (.int (nI j))] []
  refine r_iload (pc := 5) dX5_weightOf_5 rfl ?_
  refine r_aload_n (pc := 7) dX5_weightOf_7 rfl ?_
  refine gf_X5_25 (pc := 8) dX5_weightOf_8 rfl ?_
  refine gf_X5_140 (pc := 11) dX5_weightOf_11 rfl ?_
  refine r_is (nI n) (by first | exact hn | exact (hf.ms hm).1) ?_
  refine r_icmp_ge (tgt := 57) (pc := 14) dX5_weightOf_14 (by decide) (fun h14 => ?_) (fun h14 => ?_)
  · have h14 : n ≤ j := (nI_leI (by omega) (by omega)).mp h14
    obtain rfl : n = j := by omega
    refine r_lload_n (pc := 57) dX5_weightOf_57 rfl ?_
    exact r_lret (pc := 58) dX5_weightOf_58 rfl ⟨rfl, rfl⟩
  · have h14 : j < n := Nat.not_le.mp (fun z => h14 ((nI_leI (by omega) (by omega)).mpr z))
    refine r_aload_n (pc := 17) dX5_weightOf_17 rfl ?_
    refine gf_X5_25 (pc := 18) dX5_weightOf_18 rfl ?_
    refine r_iload (pc := 21) dX5_weightOf_21 rfl ?_
    refine iv_X5_178 (c_X2_isWatched_18 _ _ _ j w (by omega) (hm.2.2.2.2.1.trans hw) hw64) (pc := 23) dX5_weightOf_23 rfl ⟨Nat.le_of_ble_eq_true rfl, Nat.le_of_ble_eq_true rfl⟩ (Nat.le_of_ble_eq_true rfl) hcs (kI ?_)
    refine r_is (bI (hasB (nI w) (nI j))) (by rw [hm.2.2.2.2.1, hw]) ?_
    refine r_ifeq_b (tgt := 51) (pc := 26) dX5_weightOf_26 (by decide) (fun h26 => ?_) (fun h26 => ?_)
    · have e9 : ptN (nI w) (nI g) (10 - p) (j + 1) = ptN (nI w) (nI g) (10 - p) j := by rw [ptN, if_neg h26, Nat.mul_one]
      first | refine r_inc [_, _, _, _, _, _] (pc := 51) dX5_weightOf_51 rfl (nI_inc _) (by decide) rfl rfl ?_ | refine r_inc [_, _, _, _, _, _] (pc := 51) dX5_weightOf_51 rfl rfl (by decide) rfl rfl ?_
      refine r_goto (tgt := 5) (pc := 54) dX5_weightOf_54 (by decide) ?_
      refine V.bk (ih (j + 1) (by omega) (by omega)) rfl ?_
      rw [e9]
      repeat (first | exact wk_0 | refine wk_n ?_ | refine wk_s rfl ?_)
    · refine r_lload_n (pc := 29) dX5_weightOf_29 rfl ?_
      refine r_iload_n (pc := 30) dX5_weightOf_30 rfl ?_
      refine r_iload (pc := 31) dX5_weightOf_31 rfl ?_
      refine r_ishr (pc := 33) dX5_weightOf_33 ?_
      refine r_iconst (v := nI 1) (pc := 34) dX5_weightOf_34 (by decide) ?_
      refine r_iand (pc := 35) dX5_weightOf_35 ?_
      refine r_if_eq (tgt := 47) (pc := 36) dX5_weightOf_36 (by decide) (fun h36 => ?_) (fun h36 => ?_)
      · have e9 : ptN (nI w) (nI g) (10 - p) (j + 1) = ptN (nI w) (nI g) (10 - p) j * p := by rw [ptN, if_pos h26, if_neg (fun z => (hasB_w g hg j (by omega)).mpr z h36), show 10 - (10 - p) = p by omega]
        have e8 : lN (ptN (nI w) (nI g) (10 - p) j) * (nI p).toInt64 = lN (ptN (nI w) (nI g) (10 - p) j * p) := by rw [nI_l (by omega), lN_mul]
        refine r_iload_n (pc := 47) dX5_weightOf_47 rfl ?_
        refine r_i2l (pc := 48) dX5_weightOf_48 ?_
        refine r_lmul (pc := 49) dX5_weightOf_49 ?_
        refine r_isL _ e8 ?_
        refine r_lst_n [_, _, _, _, _, _] (pc := 50) dX5_weightOf_50 (by decide) rfl rfl ?_
        first | refine r_inc [_, _, _, _, _, _] (pc := 51) dX5_weightOf_51 rfl (nI_inc _) (by decide) rfl rfl ?_ | refine r_inc [_, _, _, _, _, _] (pc := 51) dX5_weightOf_51 rfl rfl (by decide) rfl rfl ?_
        refine r_goto (tgt := 5) (pc := 54) dX5_weightOf_54 (by decide) ?_
        refine V.bk (ih (j + 1) (by omega) (by omega)) rfl ?_
        rw [e9]
        repeat (first | exact wk_0 | refine wk_n ?_ | refine wk_s rfl ?_)
      · have e9 : ptN (nI w) (nI g) (10 - p) (j + 1) = ptN (nI w) (nI g) (10 - p) j * (10 - p) := by rw [ptN, if_pos h26, if_pos ((hasB_w g hg j (by omega)).mp h36)]
        have e8 : lN (ptN (nI w) (nI g) (10 - p) j) * (nI (10 - p)).toInt64 = lN (ptN (nI w) (nI g) (10 - p) j * (10 - p)) := by rw [nI_l (by omega), lN_mul]
        refine r_bipush (v := nI 10) (pc := 39) dX5_weightOf_39 (by decide) ?_
        refine r_iload_n (pc := 41) dX5_weightOf_41 rfl ?_
        first | (with_reducible refine r_isubN (pc := 42) dX5_weightOf_42 ?hle ?_; case hle => omega) | refine r_isub (pc := 42) dX5_weightOf_42 ?_
        refine r_i2l (pc := 43) dX5_weightOf_43 ?_
        refine r_goto (tgt := 49) (pc := 44) dX5_weightOf_44 (by decide) ?_
        refine r_lmul (pc := 49) dX5_weightOf_49 ?_
        refine r_isL _ e8 ?_
        refine r_lst_n [_, _, _, _, _, _] (pc := 50) dX5_weightOf_50 (by decide) rfl rfl ?_
        first | refine r_inc [_, _, _, _, _, _] (pc := 51) dX5_weightOf_51 rfl (nI_inc _) (by decide) rfl rfl ?_ | refine r_inc [_, _, _, _, _, _] (pc := 51) dX5_weightOf_51 rfl rfl (by decide) rfl rfl ?_
        refine r_goto (tgt := 5) (pc := 54) dX5_weightOf_54 (by decide) ?_
        refine V.bk (ih (j + 1) (by omega) (by omega)) rfl ?_
        rw [e9]
        repeat (first | exact wk_0 | refine wk_n ?_ | refine wk_s rfl ?_)
set_option maxHeartbeats 4000000 in
set_option maxRecDepth 100000 in
theorem c_X5_doze (l : Launch) (G : Gx) (M : Mem) (x y z u t : Int32) (w : Nat) (S : Nat → Int32) (n : Nat) (hm : ms 18 n S M) (hR : Rg n S) (hw : S 4 = nI w) (hwn : w < 2 ^ n) : Con l G yX5_doze cX5_doze 13 (some .long) 6 174 [.ref (gA G 14), .int x, .int y, .int z, .int u, .int t] M (fun v M' => (¬ (chG n x ∧ rgG 0 5 y ∧ rgG 0 30 z ∧ rgG 0 10 u ∧ rgG 0 1 t) ∧ rL ((-1000001 : Int32).toInt64) M v M') ∨ (∃ k q m p o, k < n ∧ q ≤ 5 ∧ m ≤ 30 ∧ p ≤ 10 ∧ o ≤ 1 ∧ x = nI k ∧ y = nI q ∧ z = nI m ∧ u = nI p ∧ t = nI o ∧ qL (lN (if o = 0 then (abN (nI w) (fun i => ptN (nI w) (nI i) p n) (fun i => decide (nI q < nI (rankN (goP (upd S 4 (nI w &&& (nI i ^^^ (-1)))) n m) k n))) (w + 1)) / Nat.gcd (abN (nI w) (fun i => ptN (nI w) (nI i) p n) (fun i => decide (nI q < nI (rankN (goP (upd S 4 (nI w &&& (nI i ^^^ (-1)))) n m) k n))) (w + 1)) (blN (nI w) n) else (blN (nI w) n) / Nat.gcd (abN (nI w) (fun i => ptN (nI w) (nI i) p n) (fun i => decide (nI q < nI (rankN (goP (upd S 4 (nI w &&& (nI i ^^^ (-1)))) n m) k n))) (w + 1)) (blN (nI w) n))) (fpc M) v M')) := by
  refine Con.ofV [some (.ref (gA G 14)), some (.int x), some (.int y), some (.int z), some (.int u), some (.int t), none, none, none, none, none, none, none] RX5 (by decide) rfl (Nat.le_of_ble_eq_true rfl) rfl ?_
  intro κ hl hG hk0 hn0
  subst hl hG
  have hcs : κ.k ≤ 0 ∧ κ.n ≤ 0 := ⟨Nat.le_of_eq hk0, Nat.le_of_eq hn0⟩
  generalize hPP : (fun v M' => (¬ (chG n x ∧ rgG 0 5 y ∧ rgG 0 30 z ∧ rgG 0 10 u ∧ rgG 0 1 t) ∧ rL ((-1000001 : Int32).toInt64) M v M') ∨ (∃ k q m p o, k < n ∧ q ≤ 5 ∧ m ≤ 30 ∧ p ≤ 10 ∧ o ≤ 1 ∧ x = nI k ∧ y = nI q ∧ z = nI m ∧ u = nI p ∧ t = nI o ∧ qL (lN (if o = 0 then (abN (nI w) (fun i => ptN (nI w) (nI i) p n) (fun i => decide (nI q < nI (rankN (goP (upd S 4 (nI w &&& (nI i ^^^ (-1)))) n m) k n))) (w + 1)) / Nat.gcd (abN (nI w) (fun i => ptN (nI w) (nI i) p n) (fun i => decide (nI q < nI (rankN (goP (upd S 4 (nI w &&& (nI i ^^^ (-1)))) n m) k n))) (w + 1)) (blN (nI w) n) else (blN (nI w) n) / Nat.gcd (abN (nI w) (fun i => ptN (nI w) (nI i) p n) (fun i => decide (nI q < nI (rankN (goP (upd S 4 (nI w &&& (nI i ^^^ (-1)))) n m) k n))) (w + 1)) (blN (nI w) n))) (fpc M) v M')) = PP
  have hn := hm.1
  have hn6 := hR.1
  have h64n := two6 n hn6
  have hw64 : w < 64 := by omega
  refine r_aload_n (pc := 0) dX5_doze_0 rfl ?_
  refine r_iload_n (pc := 1) dX5_doze_1 rfl ?_
  refine iv_X5_165 (c_X5_isChair _ _ _ _) (pc := 2) dX5_doze_2 rfl ⟨Nat.le_of_ble_eq_true rfl, Nat.le_of_ble_eq_true rfl⟩ (Nat.le_of_ble_eq_true rfl) hcs (kI ?_)
  refine r_ifeq_b (tgt := 48) (pc := 5) dX5_doze_5 (by decide) (fun h5 => ?_) (fun h5 => ?_)
  · have g5 : ¬ chG n x := fun z => h5 (ch_mpr hn hn6 z)
    refine r_ldc2 (pc := 48) dX5_doze_48 lk_X5_255 ?_
    exact r_lret (pc := 51) dX5_doze_51 rfl (by subst hPP; exact (Or.inl ⟨by first | exact fun z => g5 z.1 | exact fun z => g14 z.2.1 | exact fun z => g24 z.2.2.1 | exact fun z => g35 z.2.2.2.1 | exact fun z => g45 z.2.2.2.2, rfl, rfl⟩))
  · obtain ⟨k, hk, rfl⟩ := ch_mp hn hn6 h5
    refine r_iload_n (pc := 8) dX5_doze_8 rfl ?_
    refine r_iconst (v := nI 0) (pc := 9) dX5_doze_9 (by decide) ?_
    refine r_iconst (v := nI 5) (pc := 10) dX5_doze_10 (by decide) ?_
    refine iv_X5_63 (c_X5_within _ _ _ _ _ _) (pc := 11) dX5_doze_11 ⟨Nat.le_of_ble_eq_true rfl, Nat.le_of_ble_eq_true rfl⟩ (Nat.le_of_ble_eq_true rfl) hcs (kI ?_)
    refine r_ifeq_b (tgt := 48) (pc := 14) dX5_doze_14 (by decide) (fun h14 => ?_) (fun h14 => ?_)
    · have g14 : ¬ rgG 0 5 y := fun z => h14 (rg_mpr z (by omega))
      refine r_ldc2 (pc := 48) dX5_doze_48 lk_X5_255 ?_
      exact r_lret (pc := 51) dX5_doze_51 rfl (by subst hPP; exact (Or.inl ⟨by first | exact fun z => g5 z.1 | exact fun z => g14 z.2.1 | exact fun z => g24 z.2.2.1 | exact fun z => g35 z.2.2.2.1 | exact fun z => g45 z.2.2.2.2, rfl, rfl⟩))
    · obtain ⟨q, hqa, hqb, rfl⟩ := rg_mp (a := 0) (b := 5) h14 (by omega) (by omega)
      refine r_iload_n (pc := 17) dX5_doze_17 rfl ?_
      refine r_iconst (v := nI 0) (pc := 18) dX5_doze_18 (by decide) ?_
      refine r_bipush (v := nI 30) (pc := 19) dX5_doze_19 (by decide) ?_
      refine iv_X5_63 (c_X5_within _ _ _ _ _ _) (pc := 21) dX5_doze_21 ⟨Nat.le_of_ble_eq_true rfl, Nat.le_of_ble_eq_true rfl⟩ (Nat.le_of_ble_eq_true rfl) hcs (kI ?_)
      refine r_ifeq_b (tgt := 48) (pc := 24) dX5_doze_24 (by decide) (fun h24 => ?_) (fun h24 => ?_)
      · have g24 : ¬ rgG 0 30 z := fun z => h24 (rg_mpr z (by omega))
        refine r_ldc2 (pc := 48) dX5_doze_48 lk_X5_255 ?_
        exact r_lret (pc := 51) dX5_doze_51 rfl (by subst hPP; exact (Or.inl ⟨by first | exact fun z => g5 z.1 | exact fun z => g14 z.2.1 | exact fun z => g24 z.2.2.1 | exact fun z => g35 z.2.2.2.1 | exact fun z => g45 z.2.2.2.2, rfl, rfl⟩))
      · obtain ⟨m, hma, hmb, rfl⟩ := rg_mp (a := 0) (b := 30) h24 (by omega) (by omega)
        refine r_iload (pc := 27) dX5_doze_27 rfl ?_
        refine r_iconst (v := nI 0) (pc := 29) dX5_doze_29 (by decide) ?_
        refine r_bipush (v := nI 10) (pc := 30) dX5_doze_30 (by decide) ?_
        refine iv_X5_63 (c_X5_within _ _ _ _ _ _) (pc := 32) dX5_doze_32 ⟨Nat.le_of_ble_eq_true rfl, Nat.le_of_ble_eq_true rfl⟩ (Nat.le_of_ble_eq_true rfl) hcs (kI ?_)
        refine r_ifeq_b (tgt := 48) (pc := 35) dX5_doze_35 (by decide) (fun h35 => ?_) (fun h35 => ?_)
        · have g35 : ¬ rgG 0 10 u := fun z => h35 (rg_mpr z (by omega))
          refine r_ldc2 (pc := 48) dX5_doze_48 lk_X5_255 ?_
          exact r_lret (pc := 51) dX5_doze_51 rfl (by subst hPP; exact (Or.inl ⟨by first | exact fun z => g5 z.1 | exact fun z => g14 z.2.1 | exact fun z => g24 z.2.2.1 | exact fun z => g35 z.2.2.2.1 | exact fun z => g45 z.2.2.2.2, rfl, rfl⟩))
        · obtain ⟨p, hpa, hpb, rfl⟩ := rg_mp (a := 0) (b := 10) h35 (by omega) (by omega)
          refine r_iload (pc := 38) dX5_doze_38 rfl ?_
          refine r_iconst (v := nI 0) (pc := 40) dX5_doze_40 (by decide) ?_
          refine r_iconst (v := nI 1) (pc := 41) dX5_doze_41 (by decide) ?_
          refine iv_X5_63 (c_X5_within _ _ _ _ _ _) (pc := 42) dX5_doze_42 ⟨Nat.le_of_ble_eq_true rfl, Nat.le_of_ble_eq_true rfl⟩ (Nat.le_of_ble_eq_true rfl) hcs (kI ?_)
          refine r_ifne_b (tgt := 52) (pc := 45) dX5_doze_45 (by decide) (fun h45 => ?_) (fun h45 => ?_)
          · obtain ⟨o, hoa, hob, rfl⟩ := rg_mp (a := 0) (b := 1) h45 (by omega) (by omega)
            refine r_lconst (v := (nI 0).toInt64) (pc := 52) dX5_doze_52 (by decide) ?_
            refine r_lst [_, _, _, _, _, _, _, _, _, _, _, _, _] (pc := 53) dX5_doze_53 (by decide) rfl rfl ?_
            refine r_lconst (v := (nI 0).toInt64) (pc := 55) dX5_doze_55 (by decide) ?_
            refine r_lst [_, _, _, _, _, _, _, _, _, _, _, _, _] (pc := 56) dX5_doze_56 (by decide) rfl rfl ?_
            refine r_iconst (v := nI 0) (pc := 58) dX5_doze_58 (by decide) ?_
            refine r_st [_, _, _, _, _, _, _, _, _, _, _, _, _] (pc := 59) dX5_doze_59 (by decide) rfl rfl ?_
            refine V.bk (loopV (fun (σ : Nat × Mem) => V κ cX5_doze RX5 13 (some .long) (rmx 6 174) (QM κ PP) (σ.2) 61 [some (.ref (gA κ.G 14)), some (.int (nI k)), some (.int (nI q)), some (.int (nI m)), some (.int (nI p)), some (.int (nI o)), some (.long (lN (abN (nI w) (fun i => ptN (nI w) (nI i) (10 - p) n) (fun i => decide (nI q < nI (rankN (goP (upd S 4 (nI i)) n m) k n))) (σ.1)))), none, some (.long (lN (abN (nI w) (fun i => ptN (nI w) (nI i) (10 - p) n) (fun _ => false) (σ.1)))), none, some (.int (nI (σ.1))), none, none] []) (fun (σ : Nat × Mem) => (σ.1) ≤ 2 ^ n ∧ fpc M (σ.2)) (fun (σ : Nat × Mem) => 2 ^ n - (σ.1)) ?_ (0, M) ⟨Nat.zero_le _, fpc.refl _⟩) rfl (by (repeat (first | exact wk_0 | refine wk_n ?_ | refine wk_s rfl ?_)); done)
            rintro ⟨g, N⟩ hI0 ih
            dsimp only at hI0 ih
            obtain ⟨hg2, hf⟩ := hI0
            show V κ cX5_doze RX5 13 (some .long) (rmx 6 174) (QM κ PP) N 61 [some (.ref (gA κ.G 14)), some (.int (nI k)), some (.int (nI q)), some (.int (nI m)), some (.int (nI p)), some (.int (nI o)), some (.long (lN (abN (nI w) (fun i => ptN (nI w) (nI i) (10 - p) n) (fun i => decide (nI q < nI (rankN (goP (upd S 4 (nI i)) n m) k n))) g))), none, some (.long (lN (abN (nI w) (fun i => ptN (nI w) (nI i) (10 - p) n) (fun _ => false) g))), none, some (.int (nI g)), none, none] []
            refine r_iload (pc := 61) dX5_doze_61 rfl ?_
            refine r_iconst (v := nI 1) (pc := 63) dX5_doze_63 (by decide) ?_
            refine r_aload_n (pc := 64) dX5_doze_64 rfl ?_
            refine gf_X5_25 (pc := 65) dX5_doze_65 rfl ?_
            refine gf_X5_140 (pc := 68) dX5_doze_68 rfl ?_
            refine r_is (nI n) ((hf.ms hm).1) ?_
            refine r_ishl (pc := 71) dX5_doze_71 ?_
            refine r_is (nI (2 ^ n)) (shl1 n hn6) ?_
            refine r_icmp_ge (tgt := 142) (pc := 72) dX5_doze_72 (by decide) (fun h72 => ?_) (fun h72 => ?_)
            · have hg3 : g = 2 ^ n := by have := (nI_leI (by omega) (by omega)).mp h72; omega
              subst hg3
              have eA : abN (nI w) (fun i => ptN (nI w) (nI i) (10 - p) n) (fun i => decide (nI q < nI (rankN (goP (upd S 4 (nI i)) n m) k n))) (2 ^ n) = (abN (nI w) (fun i => ptN (nI w) (nI i) p n) (fun i => decide (nI q < nI (rankN (goP (upd S 4 (nI w &&& (nI i ^^^ (-1)))) n m) k n))) (w + 1)) := (dz_rev (bad := (fun i => decide (nI q < nI (rankN (goP (upd S 4 (nI w &&& (nI i ^^^ (-1)))) n m) k n)))) (bad2 := (fun i => decide (nI q < nI (rankN (goP (upd S 4 (nI i)) n m) k n)))) hw64 hn6 hwn hpb (fun i hi => by rw [(sub_c hw64 (by have := sub_le hi; omega) hi).2])).symm
              have eB : abN (nI w) (fun i => ptN (nI w) (nI i) (10 - p) n) (fun _ => false) (2 ^ n) = (blN (nI w) n) := dz_all hw64 hn6 hwn (by omega)
              have hA := abN_le (nI w) (fun i => ptN (nI w) (nI i) p n) (fun i => decide (nI q < nI (rankN (goP (upd S 4 (nI w &&& (nI i ^^^ (-1)))) n m) k n))) (fun i => Nat.le_trans (ptN_le _ _ hpb n) (ten_le n hn6)) (w + 1)
              have hB := blN_le (nI w) n
              have hB6 := ten_le n hn6
              rw [eA, eB]
              have hG : 0 < Nat.gcd (abN (nI w) (fun i => ptN (nI w) (nI i) p n) (fun i => decide (nI q < nI (rankN (goP (upd S 4 (nI w &&& (nI i ^^^ (-1)))) n m) k n))) (w + 1)) (blN (nI w) n) := Nat.gcd_pos_of_pos_right _ (by omega)
              have hG2 : Nat.gcd (abN (nI w) (fun i => ptN (nI w) (nI i) p n) (fun i => decide (nI q < nI (rankN (goP (upd S 4 (nI w &&& (nI i ^^^ (-1)))) n m) k n))) (w + 1)) (blN (nI w) n) ≤ (blN (nI w) n) := Nat.le_of_dvd (by omega) (Nat.gcd_dvd_right _ _)
              refine r_lload (pc := 142) dX5_doze_142 rfl ?_
              refine r_lload (pc := 144) dX5_doze_144 rfl ?_
              refine iv_X5_264 (c_X5_commonDivisor _ _ _ _ _ (by omega) (by omega)) (pc := 146) dX5_doze_146 ⟨Nat.le_of_ble_eq_true rfl, Nat.le_of_ble_eq_true rfl⟩ (Nat.le_of_ble_eq_true rfl) hcs (kL ?_)
              refine r_lst [_, _, _, _, _, _, _, _, _, _, _, _, _] (pc := 149) dX5_doze_149 (by decide) rfl rfl ?_
              refine r_lload (pc := 151) dX5_doze_151 rfl ?_
              refine r_lconst (v := (nI 0).toInt64) (pc := 153) dX5_doze_153 (by decide) ?_
              refine r_lcmp (pc := 154) dX5_doze_154 ?_
              refine r_if_ne (tgt := 162) (pc := 155) dX5_doze_155 (by decide) (fun h155 => ?_) (fun h155 => ?_)
              · refine r_iload (pc := 162) dX5_doze_162 rfl ?_
                refine r_if_ne (tgt := 175) (pc := 164) dX5_doze_164 (by decide) (fun h164 => ?_) (fun h164 => ?_)
                · have h164 : o ≠ 0 := fun z => h164 (by rw [z]; rfl)
                  refine r_lload (pc := 175) dX5_doze_175 rfl ?_
                  refine r_lload (pc := 177) dX5_doze_177 rfl ?_
                  refine r_ldiv (pc := 179) dX5_doze_179 (by (exact lN_ne hG (by omega))) ?_
                  try refine r_isL (lN ((blN (nI w) n) / Nat.gcd (abN (nI w) (fun i => ptN (nI w) (nI i) p n) (fun i => decide (nI q < nI (rankN (goP (upd S 4 (nI w &&& (nI i ^^^ (-1)))) n m) k n))) (w + 1)) (blN (nI w) n))) (pk_lDiv (by omega) hG (by omega)) ?_
                  exact r_lret (pc := 180) dX5_doze_180 rfl (by subst hPP; exact (Or.inr ⟨k, q, m, p, o, hk, hqb, hmb, hpb, hob, rfl, rfl, rfl, rfl, rfl, by first | rw [if_pos h164] | rw [if_neg h164], hf⟩))
                · have h164 : o = 0 := (nI_eq (by omega) (by omega)).mp (h164.trans nI_0.symm)
                  refine r_lload (pc := 167) dX5_doze_167 rfl ?_
                  refine r_lload (pc := 169) dX5_doze_169 rfl ?_
                  refine r_ldiv (pc := 171) dX5_doze_171 (by (exact lN_ne hG (by omega))) ?_
                  refine r_isL (lN ((abN (nI w) (fun i => ptN (nI w) (nI i) p n) (fun i => decide (nI q < nI (rankN (goP (upd S 4 (nI w &&& (nI i ^^^ (-1)))) n m) k n))) (w + 1)) / Nat.gcd (abN (nI w) (fun i => ptN (nI w) (nI i) p n) (fun i => decide (nI q < nI (rankN (goP (upd S 4 (nI w &&& (nI i ^^^ (-1)))) n m) k n))) (w + 1)) (blN (nI w) n))) (pk_lDiv (by omega) hG (by omega)) ?_
                  refine r_goto (tgt := 180) (pc := 172) dX5_doze_172 (by decide) ?_
                  try refine r_isL (lN ((blN (nI w) n) / Nat.gcd (abN (nI w) (fun i => ptN (nI w) (nI i) p n) (fun i => decide (nI q < nI (rankN (goP (upd S 4 (nI w &&& (nI i ^^^ (-1)))) n m) k n))) (w + 1)) (blN (nI w) n))) (pk_lDiv (by omega) hG (by omega)) ?_
                  exact r_lret (pc := 180) dX5_doze_180 rfl (by subst hPP; exact (Or.inr ⟨k, q, m, p, o, hk, hqb, hmb, hpb, hob, rfl, rfl, rfl, rfl, rfl, by first | rw [if_pos h164] | rw [if_neg h164], hf⟩))
              · exact absurd ((fb_lN_inj (b := 0) (by omega) (by omega)).mp ((lg_cmp_eq _ _).mp h155)) (by omega)
            · have hg3 : g < 2 ^ n := Nat.not_le.mp (fun z => h72 (nI_le z (by omega)))
              have hn1 : 0 < n := by omega
              have hpt := Nat.le_trans (ptN_le (nI w) (nI g) (show 10 - p ≤ 10 by omega) n) (ten_le n hn6)
              refine r_iload (pc := 75) dX5_doze_75 rfl ?_
              refine r_aload_n (pc := 77) dX5_doze_77 rfl ?_
              refine gf_X5_25 (pc := 78) dX5_doze_78 rfl ?_
              refine gf_X5_181 (pc := 81) dX5_doze_81 rfl ?_
              refine r_is (nI w) ((hf.ms hm).2.2.2.2.1.trans hw) ?_
              refine r_iconst (v := (-1)) (pc := 84) dX5_doze_84 (by decide) ?_
              refine r_ixor (pc := 85) dX5_doze_85 ?_
              refine r_iand (pc := 86) dX5_doze_86 ?_
              refine r_if_eq (tgt := 93) (pc := 87) dX5_doze_87 (by decide) (fun h87 => ?_) (fun h87 => ?_)
              · have e7 : abN (nI w) (fun i => ptN (nI w) (nI i) (10 - p) n) (fun _ => false) (g + 1) = abN (nI w) (fun i => ptN (nI w) (nI i) (10 - p) n) (fun _ => false) g + ptN (nI w) (nI g) (10 - p) n := by rw [abN, if_pos h87, if_neg (by decide)]
                refine r_aload_n (pc := 93) dX5_doze_93 rfl ?_
                refine r_iload (pc := 94) dX5_doze_94 rfl ?_
                refine r_iload (pc := 96) dX5_doze_96 rfl ?_
                refine iv_X5_257 (c_X5_weightOf _ _ _ g p w (by omega) hpb hw64 S n (hf.ms hm) hR hw) (pc := 98) dX5_doze_98 rfl ⟨Nat.le_of_ble_eq_true rfl, Nat.le_of_ble_eq_true rfl⟩ (Nat.le_of_ble_eq_true rfl) hcs (kL ?_)
                refine r_lst [_, _, _, _, _, _, _, _, _, _, _, _, _] (pc := 101) dX5_doze_101 (by decide) rfl rfl ?_
                refine r_lload (pc := 103) dX5_doze_103 rfl ?_
                refine r_lload (pc := 105) dX5_doze_105 rfl ?_
                refine r_ladd (pc := 107) dX5_doze_107 ?_
                refine r_isL (lN (abN (nI w) (fun i => ptN (nI w) (nI i) (10 - p) n) (fun _ => false) (g + 1))) (by rw [e7, lN_add]) ?_
                refine r_lst [_, _, _, _, _, _, _, _, _, _, _, _, _] (pc := 108) dX5_doze_108 (by decide) rfl rfl ?_
                refine r_lload (pc := 110) dX5_doze_110 rfl ?_
                refine r_lconst (v := (nI 0).toInt64) (pc := 112) dX5_doze_112 (by decide) ?_
                refine r_lcmp (pc := 113) dX5_doze_113 ?_
                refine r_if_le (tgt := 136) (pc := 114) dX5_doze_114 (by decide) (fun h114 => ?_) (fun h114 => ?_)
                · have hz : ptN (nI w) (nI g) (10 - p) n = 0 := Nat.le_zero.mp ((lN_le (b := 0) (by omega) (by omega)).mp ((lg_cmp_le _ _).mp h114))
                  have e8 : abN (nI w) (fun i => ptN (nI w) (nI i) (10 - p) n) (fun i => decide (nI q < nI (rankN (goP (upd S 4 (nI i)) n m) k n))) (g + 1) = abN (nI w) (fun i => ptN (nI w) (nI i) (10 - p) n) (fun i => decide (nI q < nI (rankN (goP (upd S 4 (nI i)) n m) k n))) g := by rw [abN, if_pos h87, hz]; split <;> rfl
                  first | refine r_inc [_, _, _, _, _, _, _, _, _, _, _, _, _] (pc := 136) dX5_doze_136 rfl (nI_inc _) (by decide) rfl rfl ?_ | refine r_inc [_, _, _, _, _, _, _, _, _, _, _, _, _] (pc := 136) dX5_doze_136 rfl rfl (by decide) rfl rfl ?_
                  refine r_goto (tgt := 61) (pc := 139) dX5_doze_139 (by decide) ?_
                  first
                    | refine V.bk (ih (g + 1, N122) ⟨by dsimp only; omega, hf.trans r122⟩ (by dsimp only; omega)) rfl ?_
                      dsimp only
                      first | rw [e8] | skip
                      repeat (first | exact wk_0 | refine wk_n ?_ | refine wk_s rfl ?_)
                    | refine V.bk (ih (g + 1, N) ⟨by dsimp only; omega, hf⟩ (by dsimp only; omega)) rfl ?_
                      dsimp only
                      rw [e8]
                      first | rw [e7] | skip
                      repeat (first | exact wk_0 | refine wk_n ?_ | refine wk_s rfl ?_)
                · refine r_aload_n (pc := 117) dX5_doze_117 rfl ?_
                  refine r_iload_n (pc := 118) dX5_doze_118 rfl ?_
                  refine r_iload_n (pc := 119) dX5_doze_119 rfl ?_
                  refine r_iload (pc := 120) dX5_doze_120 rfl ?_
                  refine iv_X5_261 (c_X5_rankIfWatched _ _ _ k m g (by omega) S n (hf.ms hm) hR hn1 hk hg3) (pc := 122) dX5_doze_122 rfl ⟨Nat.le_of_ble_eq_true rfl, Nat.le_of_ble_eq_true rfl⟩ (Nat.le_of_ble_eq_true rfl) hcs (kqI (fun N122 r122 => ?_))
                  refine r_iload_n (pc := 125) dX5_doze_125 rfl ?_
                  refine r_icmp_gt (tgt := 136) (pc := 126) dX5_doze_126 (by decide) (fun h126 => ?_) (fun h126 => ?_)
                  · have e8 : abN (nI w) (fun i => ptN (nI w) (nI i) (10 - p) n) (fun i => decide (nI q < nI (rankN (goP (upd S 4 (nI i)) n m) k n))) (g + 1) = abN (nI w) (fun i => ptN (nI w) (nI i) (10 - p) n) (fun i => decide (nI q < nI (rankN (goP (upd S 4 (nI i)) n m) k n))) g := by rw [abN, if_pos h87, if_pos (decide_eq_true h126), Nat.add_zero]
                    first | refine r_inc [_, _, _, _, _, _, _, _, _, _, _, _, _] (pc := 136) dX5_doze_136 rfl (nI_inc _) (by decide) rfl rfl ?_ | refine r_inc [_, _, _, _, _, _, _, _, _, _, _, _, _] (pc := 136) dX5_doze_136 rfl rfl (by decide) rfl rfl ?_
                    refine r_goto (tgt := 61) (pc := 139) dX5_doze_139 (by decide) ?_
                    first
                      | refine V.bk (ih (g + 1, N122) ⟨by dsimp only; omega, hf.trans r122⟩ (by dsimp only; omega)) rfl ?_
                        dsimp only
                        first | rw [e8] | skip
                        repeat (first | exact wk_0 | refine wk_n ?_ | refine wk_s rfl ?_)
                      | refine V.bk (ih (g + 1, N) ⟨by dsimp only; omega, hf⟩ (by dsimp only; omega)) rfl ?_
                        dsimp only
                        rw [e8]
                        first | rw [e7] | skip
                        repeat (first | exact wk_0 | refine wk_n ?_ | refine wk_s rfl ?_)
                  · have e8 : abN (nI w) (fun i => ptN (nI w) (nI i) (10 - p) n) (fun i => decide (nI q < nI (rankN (goP (upd S 4 (nI i)) n m) k n))) (g + 1) = abN (nI w) (fun i => ptN (nI w) (nI i) (10 - p) n) (fun i => decide (nI q < nI (rankN (goP (upd S 4 (nI i)) n m) k n))) g + ptN (nI w) (nI g) (10 - p) n := by rw [abN, if_pos h87, if_neg (fun z => h126 (of_decide_eq_true z))]
                    refine r_lload (pc := 129) dX5_doze_129 rfl ?_
                    refine r_lload (pc := 131) dX5_doze_131 rfl ?_
                    refine r_ladd (pc := 133) dX5_doze_133 ?_
                    refine r_isL (lN (abN (nI w) (fun i => ptN (nI w) (nI i) (10 - p) n) (fun i => decide (nI q < nI (rankN (goP (upd S 4 (nI i)) n m) k n))) (g + 1))) (by rw [e8, lN_add]) ?_
                    refine r_lst [_, _, _, _, _, _, _, _, _, _, _, _, _] (pc := 134) dX5_doze_134 (by decide) rfl rfl ?_
                    first | refine r_inc [_, _, _, _, _, _, _, _, _, _, _, _, _] (pc := 136) dX5_doze_136 rfl (nI_inc _) (by decide) rfl rfl ?_ | refine r_inc [_, _, _, _, _, _, _, _, _, _, _, _, _] (pc := 136) dX5_doze_136 rfl rfl (by decide) rfl rfl ?_
                    refine r_goto (tgt := 61) (pc := 139) dX5_doze_139 (by decide) ?_
                    first
                      | refine V.bk (ih (g + 1, N122) ⟨by dsimp only; omega, hf.trans r122⟩ (by dsimp only; omega)) rfl ?_
                        dsimp only
                        first | rw [e8] | skip
                        repeat (first | exact wk_0 | refine wk_n ?_ | refine wk_s rfl ?_)
                      | refine V.bk (ih (g + 1, N) ⟨by dsimp only; omega, hf⟩ (by dsimp only; omega)) rfl ?_
                        dsimp only
                        rw [e8]
                        first | rw [e7] | skip
                        repeat (first | exact wk_0 | refine wk_n ?_ | refine wk_s rfl ?_)
              · have e8 : abN (nI w) (fun i => ptN (nI w) (nI i) (10 - p) n) (fun i => decide (nI q < nI (rankN (goP (upd S 4 (nI i)) n m) k n))) (g + 1) = abN (nI w) (fun i => ptN (nI w) (nI i) (10 - p) n) (fun i => decide (nI q < nI (rankN (goP (upd S 4 (nI i)) n m) k n))) g := if_neg h87
                have e7 : abN (nI w) (fun i => ptN (nI w) (nI i) (10 - p) n) (fun _ => false) (g + 1) = abN (nI w) (fun i => ptN (nI w) (nI i) (10 - p) n) (fun _ => false) g := if_neg h87
                refine r_goto (tgt := 136) (pc := 90) dX5_doze_90 (by decide) ?_
                first | refine r_inc [_, _, _, _, _, _, _, _, _, _, _, _, _] (pc := 136) dX5_doze_136 rfl (nI_inc _) (by decide) rfl rfl ?_ | refine r_inc [_, _, _, _, _, _, _, _, _, _, _, _, _] (pc := 136) dX5_doze_136 rfl rfl (by decide) rfl rfl ?_
                refine r_goto (tgt := 61) (pc := 139) dX5_doze_139 (by decide) ?_
                first
                  | refine V.bk (ih (g + 1, N122) ⟨by dsimp only; omega, hf.trans r122⟩ (by dsimp only; omega)) rfl ?_
                    dsimp only
                    first | rw [e8] | skip
                    repeat (first | exact wk_0 | refine wk_n ?_ | refine wk_s rfl ?_)
                  | refine V.bk (ih (g + 1, N) ⟨by dsimp only; omega, hf⟩ (by dsimp only; omega)) rfl ?_
                    dsimp only
                    rw [e8]
                    first | rw [e7] | skip
                    repeat (first | exact wk_0 | refine wk_n ?_ | refine wk_s rfl ?_)
          · have g45 : ¬ rgG 0 1 t := fun z => h45 (rg_mpr z (by omega))
            refine r_ldc2 (pc := 48) dX5_doze_48 lk_X5_255 ?_
            exact r_lret (pc := 51) dX5_doze_51 rfl (by subst hPP; exact (Or.inl ⟨by first | exact fun z => g5 z.1 | exact fun z => g14 z.2.1 | exact fun z => g24 z.2.2.1 | exact fun z => g35 z.2.2.2.1 | exact fun z => g45 z.2.2.2.2, rfl, rfl⟩))
