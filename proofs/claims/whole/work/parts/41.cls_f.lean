theorem soB_no {f g : Nat → Int32} {j : Nat} (h : ¬ f j = g j) : ∀ m, j < m → ¬ soB f g m = true
  | 0, hm => absurd hm (Nat.not_lt_zero j)
  | m + 1, hm => by
    rw [soB, Bool.and_eq_true, decide_eq_true_iff]
    rintro ⟨z1, z2⟩
    by_cases e : j = m
    · subst e; exact h z2
    · exact soB_no h m (by omega) z1
theorem offW_r {p k v : Nat} (h1 : loW p ≤ v) (h2 : v ≤ hiW p) : (offW p = 5 ∧ 1 ≤ v ∧ v ≤ 5) ∨ (offW p = 11 ∧ v ≤ 60) ∨ (offW p = 17 ∧ v ≤ 9) ∨ (offW p = 23 ∧ v ≤ 3) ∨ (offW p = 29 ∧ v ≤ 20) := by
  by_cases a : p = 0
  · rw [loW, if_pos a] at h1
    rw [hiW, if_pos a] at h2
    exact Or.inl ⟨by rw [offW, if_pos a], h1, h2⟩
  · by_cases b : p = 1
    · rw [hiW, if_neg a, if_pos b] at h2
      exact Or.inr (Or.inr (Or.inl ⟨by rw [offW, if_neg a, if_pos b], h2⟩))
    · rw [hiW, if_neg a, if_neg b] at h2
      exact Or.inr (Or.inr (Or.inr (Or.inl ⟨by rw [offW, if_neg a, if_neg b], h2⟩)))
theorem or_n : ∀ n : Nat, n ≤ 6 → ∀ w : Nat, w < 64 → w < 2 ^ n → ∀ k : Nat, k < 6 → k < n → w ||| 2 ^ k < 2 ^ n := by decide +kernel
theorem Rg.wor {n k : Nat} {S : Nat → Int32} (h : Rg n S) (hk : k < n) : Rg n (upd S 4 (S 4 ||| nI 1 <<< (nI k &&& 31))) := by
  obtain ⟨w, hw, e⟩ := h.2.2.2.1
  have h6 := two6 n h.1
  have := h.1
  rw [e, shl1 k (by omega), fa_or]
  exact h.watch (or_n n h.1 w (by omega) hw k (by omega) hk)
theorem Rg.wxor {n k : Nat} {S : Nat → Int32} (h : Rg n S) (hk : k < n) : Rg n (upd S 4 (S 4 ^^^ nI 1 <<< (nI k &&& 31))) := by
  obtain ⟨w, hw, e⟩ := h.2.2.2.1
  have h6 := two6 n h.1
  have := h.1
  rw [e, shl1 k (by omega), fb_xorI]
  exact h.watch (xor_n n h.1 w (by omega) hw k (by omega) hk)
def kup (a : Nat) : Nat := if a = 1 then 0 else if a = 2 then 1 else if a = 3 then 1 else if a = 4 then 0 else 4
def kl (q a : Nat) : Bool := decide (a = q) || (decide (a ≠ 0) && (decide (kup a = q) || (decide (kup a ≠ 0) && decide (kup (kup a) = q))))
def kdp (a : Nat) : Nat := if a = 0 then 0 else if a = 1 then 1 else if a = 4 then 1 else 2
theorem kl_kd0 : ∀ a : Nat, a < 5 → ∀ q : Nat, q < 6 → decide (isKd (nI (a + 1)) (nI q)) = kl q (a + 1) := by decide +kernel
theorem kl_kd (a : Nat) (h5 : a ≤ 5) (h1 : 1 ≤ a) (q : Nat) (hq : q ≤ 5) : isKd (nI a) (nI q) ↔ kl q a = true := by
  obtain ⟨b, rfl⟩ : ∃ b, a = b + 1 := ⟨a - 1, by omega⟩
  rw [← kl_kd0 b (by omega) q (by omega), decide_eq_true_iff]
theorem kl_s0 : ∀ a : Nat, a < 5 → ∀ q : Nat, q < 6 → (a + 1 = q ∨ (kl q (a + 1) = kl q (kup (a + 1)) ∧ kaN (a + 1) = nI (kup (a + 1)) ∧ kup (a + 1) ≤ 5 ∧ kdp (kup (a + 1)) + 1 ≤ kdp (a + 1))) := by decide +kernel
theorem kl_s (a : Nat) (h5 : a ≤ 5) (q : Nat) (hq : q ≤ 5) (h0 : a ≠ 0) (hne : a ≠ q) : kl q a = kl q (kup a) ∧ kaN a = nI (kup a) ∧ kup a ≤ 5 ∧ kdp (kup a) + 1 ≤ kdp a := by
  obtain ⟨b, rfl⟩ : ∃ b, a = b + 1 := ⟨a - 1, by omega⟩
  exact (kl_s0 b (by omega) q (by omega)).resolve_left hne
theorem kdp_le : ∀ a : Nat, a ≤ 5 → kdp a ≤ 2 := by decide
def kdI (k q j : Nat) (b : Int32) : Prop := j ≤ 5 ∧ ((∃ a, a ≤ 5 ∧ b = nI a ∧ j + kdp a ≤ 3 ∧ (isKd (nI k) (nI q) ↔ kl q a = true)) ∨ (b = cNone ∧ ¬ isKd (nI k) (nI q)))
set_option maxHeartbeats 4000000 in
set_option maxRecDepth 100000 in
theorem c_X5_isOfKind (l : Launch) (G : Gx) (M : Mem) (k q : Nat) (hk1 : 1 ≤ k) (hk5 : k ≤ 5) (hq : q ≤ 5) : Con l G yX5_isOfKind cX5_isOfKind 4 (some .boolean) 1 22 [.int (nI k), .int (nI q)] M (rI (bI (isKd (nI k) (nI q))) M) := by
  refine Con.ofV [some (.int (nI k)), some (.int (nI q)), none, none] RX5 (by decide) rfl (Nat.le_of_ble_eq_true rfl) rfl ?_
  intro κ hl hG hk0 hn0
  subst hl hG
  have hcs : κ.k ≤ 0 ∧ κ.n ≤ 0 := ⟨Nat.le_of_eq hk0, Nat.le_of_eq hn0⟩
  refine r_iload_n (pc := 0) dX5_isOfKind_0 rfl ?_
  refine r_st_n [_, _, _, _] (pc := 1) dX5_isOfKind_1 (by decide) rfl rfl ?_
  refine r_iconst (v := nI 0) (pc := 2) dX5_isOfKind_2 (by decide) ?_
  refine r_st_n [_, _, _, _] (pc := 3) dX5_isOfKind_3 (by decide) rfl rfl ?_
  refine V.bk (loopV (fun (σ : Nat × Int32) => V κ cX5_isOfKind RX5 4 (some .boolean) (rmx 1 22) (QM κ (rI (bI (isKd (nI k) (nI q))) M)) M 4 [some (.int (nI k)), some (.int (nI q)), some (.int (σ.2)), some (.int (nI (σ.1)))] []) (fun (σ : Nat × Int32) => kdI k q (σ.1) (σ.2)) (fun (σ : Nat × Int32) => 6 - (σ.1)) ?_ (0, nI k) ⟨Nat.zero_le _, Or.inl ⟨k, hk5, rfl, by have := kdp_le k hk5; omega, kl_kd k hk5 hk1 q hq⟩⟩) rfl (by (repeat (first | exact wk_0 | refine wk_n ?_ | refine wk_s rfl ?_)); done)
  rintro ⟨j, b⟩ hI0 ih
  dsimp only at hI0 ih
  obtain ⟨hj, hI⟩ := hI0
  show V κ cX5_isOfKind RX5 4 (some .boolean) (rmx 1 22) (QM κ (rI (bI (isKd (nI k) (nI q))) M)) M 4 [some (.int (nI k)), some (.int (nI q)), some (.int b), some (.int (nI j))] []
  refine r_iload_n (pc := 4) dX5_isOfKind_4 rfl ?_
  refine r_kaG (pc := 5) dX5_isOfKind_5 ?_
  refine r_kaL (pc := 8) dX5_isOfKind_8 ?_
  refine r_icmp_ge (tgt := 45) (pc := 9) dX5_isOfKind_9 (by decide) (fun h9 => ?_) (fun h9 => ?_)
  · exact absurd ((nI_leI (by omega) (by omega)).mp h9) (by omega)
  · refine r_iload_n (pc := 12) dX5_isOfKind_12 rfl ?_
    refine r_iconst (v := nI 0) (pc := 13) dX5_isOfKind_13 (by decide) ?_
    refine r_kaG (pc := 14) dX5_isOfKind_14 ?_
    refine r_kaL (pc := 17) dX5_isOfKind_17 ?_
    refine r_iconst (v := nI 1) (pc := 18) dX5_isOfKind_18 (by decide) ?_
    first | (with_reducible refine r_isubN (pc := 19) dX5_isOfKind_19 ?hle ?_; case hle => omega) | refine r_isub (pc := 19) dX5_isOfKind_19 ?_
    refine iv_X5_63 (c_X5_within _ _ _ _ _ _) (pc := 20) dX5_isOfKind_20 ⟨Nat.le_of_ble_eq_true rfl, Nat.le_of_ble_eq_true rfl⟩ (Nat.le_of_ble_eq_true rfl) hcs (kI ?_)
    refine r_ifeq_b (tgt := 45) (pc := 23) dX5_isOfKind_23 (by decide) (fun h23 => ?_) (fun h23 => ?_)
    · have hp : ¬ isKd (nI k) (nI q) := by
        rcases hI with ⟨a, ha5, rfl, -, -⟩ | z
        · exact absurd ⟨nI_pos' (by omega), nI_le ha5 (by omega)⟩ h23
        · exact z.2
      refine r_iconst (v := nI 0) (pc := 45) dX5_isOfKind_45 (by decide) ?_
      exact r_zret (pc := 46) dX5_isOfKind_46 rfl (by first | rfl | exact bI_narrow) (by first | exact rI_1 hp | exact rI_0 hp)
    · obtain ⟨a, ha5, rfl, hdp, hkl⟩ := hI.resolve_right (fun z => by rw [z.1] at h23; exact absurd h23.1 (by decide))
      refine r_iload_n (pc := 26) dX5_isOfKind_26 rfl ?_
      refine r_iload_n (pc := 27) dX5_isOfKind_27 rfl ?_
      refine r_icmp_ne (tgt := 33) (pc := 28) dX5_isOfKind_28 (by decide) (fun h28 => ?_) (fun h28 => ?_)
      · have haq : a ≠ q := fun z => h28 (by rw [z])
        refine r_kaG (pc := 33) dX5_isOfKind_33 ?_
        refine r_iload_n (pc := 36) dX5_isOfKind_36 rfl ?_
        refine r_kaA (pc := 37) dX5_isOfKind_37 (by omega) ?_
        refine r_st_n [_, _, _, _] (pc := 38) dX5_isOfKind_38 (by decide) rfl rfl ?_
        first | refine r_inc [_, _, _, _] (pc := 39) dX5_isOfKind_39 rfl (nI_inc _) (by decide) rfl rfl ?_ | refine r_inc [_, _, _, _] (pc := 39) dX5_isOfKind_39 rfl rfl (by decide) rfl rfl ?_
        refine r_goto (tgt := 4) (pc := 42) dX5_isOfKind_42 (by decide) ?_
        by_cases ha0 : a = 0
        · subst ha0
          exact V.bk (ih (j + 1, cNone) ⟨by omega, Or.inr ⟨rfl, fun z => by have := hkl.mp z; rw [kl] at this; simp [haq] at this⟩⟩ (by dsimp only; omega)) rfl (by (repeat (first | exact wk_0 | refine wk_n ?_ | refine wk_s rfl ?_)); done)
        · obtain ⟨k1, k2, k3, k4⟩ := kl_s a ha5 q hq ha0 haq
          exact V.bk (ih (j + 1, nI (kup a)) ⟨by omega, Or.inl ⟨kup a, k3, rfl, by omega, by rw [hkl, k1]⟩⟩ (by dsimp only; omega)) rfl (by rw [k2]; (repeat (first | exact wk_0 | refine wk_n ?_ | refine wk_s rfl ?_)); done)
      · have hp : isKd (nI k) (nI q) := hkl.mpr (by rw [kl, (nI_eq (by omega) (by omega)).mp h28]; simp)
        refine r_iconst (v := nI 1) (pc := 31) dX5_isOfKind_31 (by decide) ?_
        exact r_zret (pc := 32) dX5_isOfKind_32 rfl (by first | rfl | exact bI_narrow) (by first | exact rI_1 hp | exact rI_0 hp)
set_option maxHeartbeats 4000000 in
set_option maxRecDepth 100000 in
theorem c_X5_as (l : Launch) (G : Gx) (M : Mem) (x y : Int32) (S : Nat → Int32) (n : Nat) (hm : ms 18 n S M) (hR : Rg n S) : Con l G yX5_as cX5_as 3 (some .int) 2 45 [.ref (gA G 14), .int x, .int y] M (fun v M' => (¬ (chG n x ∧ rgG 0 5 y) ∧ rI cBad M v M') ∨ (∃ k q, k < n ∧ q ≤ 5 ∧ x = nI k ∧ y = nI q ∧ ((isKd (S (5 + k)) (nI q) ∧ rI (nI k) (mset M 14 11 (nI 0)) v M') ∨ (¬ isKd (S (5 + k)) (nI q) ∧ rI (fnV 3) (mset M 14 11 (nI 3)) v M')))) := by
  refine Con.ofV [some (.ref (gA G 14)), some (.int x), some (.int y)] RX5 (by decide) rfl (Nat.le_of_ble_eq_true rfl) rfl ?_
  intro κ hl hG hk0 hn0
  subst hl hG
  have hcs : κ.k ≤ 0 ∧ κ.n ≤ 0 := ⟨Nat.le_of_eq hk0, Nat.le_of_eq hn0⟩
  generalize hPP : (fun v M' => (¬ (chG n x ∧ rgG 0 5 y) ∧ rI cBad M v M') ∨ (∃ k q, k < n ∧ q ≤ 5 ∧ x = nI k ∧ y = nI q ∧ ((isKd (S (5 + k)) (nI q) ∧ rI (nI k) (mset M 14 11 (nI 0)) v M') ∨ (¬ isKd (S (5 + k)) (nI q) ∧ rI (fnV 3) (mset M 14 11 (nI 3)) v M')))) = PP
  have hn := hm.1
  have hn6 := hR.1
  refine r_aload_n (pc := 0) dX5_as_0 rfl ?_
  refine r_iload_n (pc := 1) dX5_as_1 rfl ?_
  refine iv_X5_165 (c_X5_isChair _ _ _ _) (pc := 2) dX5_as_2 rfl ⟨Nat.le_of_ble_eq_true rfl, Nat.le_of_ble_eq_true rfl⟩ (Nat.le_of_ble_eq_true rfl) hcs (kI ?_)
  refine r_ifeq_b (tgt := 17) (pc := 5) dX5_as_5 (by decide) (fun h5 => ?_) (fun h5 => ?_)
  · have g5 : ¬ chG n x := fun z => h5 (ch_mpr hn hn6 z)
    refine r_ldc (pc := 17) dX5_as_17 lk_X5_67 ?_
    exact r_iret (pc := 19) dX5_as_19 rfl (by subst hPP; exact (Or.inl ⟨by first | exact fun z => g5 z.1 | exact fun z => g14 z.2, rfl, rfl⟩))
  · obtain ⟨k, hk, rfl⟩ := ch_mp hn hn6 h5
    refine r_iload_n (pc := 8) dX5_as_8 rfl ?_
    refine r_iconst (v := nI 0) (pc := 9) dX5_as_9 (by decide) ?_
    refine r_iconst (v := nI 5) (pc := 10) dX5_as_10 (by decide) ?_
    refine iv_X5_63 (c_X5_within _ _ _ _ _ _) (pc := 11) dX5_as_11 ⟨Nat.le_of_ble_eq_true rfl, Nat.le_of_ble_eq_true rfl⟩ (Nat.le_of_ble_eq_true rfl) hcs (kI ?_)
    refine r_ifne_b (tgt := 20) (pc := 14) dX5_as_14 (by decide) (fun h14 => ?_) (fun h14 => ?_)
    · obtain ⟨q, hqa, hqb, rfl⟩ := rg_mp (a := 0) (b := 5) h14 (by omega) (by omega)
      obtain ⟨d, hd1, hd5, ed⟩ := (hR.c hk).1
      refine r_aload_n (pc := 20) dX5_as_20 rfl ?_
      refine gf_X5_25 (pc := 21) dX5_as_21 rfl ?_
      refine gf_X5_278 (pc := 24) dX5_as_24 rfl ?_
      refine r_iload_n (pc := 27) dX5_as_27 rfl ?_
      refine r_iald (pc := 28) dX5_as_28 rfl (show _ < 6 by omega) ?_
      refine r_is (nI d) ((hm.2.2.2.2.2 k hk).1.trans ed) ?_
      refine r_iload_n (pc := 29) dX5_as_29 rfl ?_
      refine iv_X5_281 (c_X5_isOfKind _ _ _ d q hd1 hd5 hqb) (pc := 30) dX5_as_30 ⟨Nat.le_of_ble_eq_true rfl, Nat.le_of_ble_eq_true rfl⟩ (Nat.le_of_ble_eq_true rfl) hcs (kI ?_)
      refine r_ifeq_b (tgt := 44) (pc := 33) dX5_as_33 (by decide) (fun h33 => ?_) (fun h33 => ?_)
      · refine r_aload_n (pc := 44) dX5_as_44 rfl ?_
        refine r_iconst (v := nI 3) (pc := 45) dX5_as_45 (by decide) ?_
        refine iv_X5_68 (c_X5_found _ _ _ _) (pc := 46) dX5_as_46 rfl ⟨Nat.le_of_ble_eq_true rfl, Nat.le_of_ble_eq_true rfl⟩ (Nat.le_of_ble_eq_true rfl) hcs (kI ?_)
        exact r_iret (pc := 49) dX5_as_49 rfl (by subst hPP; exact (by first | exact Or.inr ⟨k, q, hk, hqb, rfl, rfl, Or.inl ⟨by rw [ed]; exact h33, rfl, rfl⟩⟩ | exact Or.inr ⟨k, q, hk, hqb, rfl, rfl, Or.inr ⟨by rw [ed]; exact h33, rfl, rfl⟩⟩))
      · refine r_aload_n (pc := 36) dX5_as_36 rfl ?_
        refine r_iload_n (pc := 37) dX5_as_37 rfl ?_
        refine iv_X5_76 (c_X5_nothingFound _ _ _ _) (pc := 38) dX5_as_38 rfl ⟨Nat.le_of_ble_eq_true rfl, Nat.le_of_ble_eq_true rfl⟩ (Nat.le_of_ble_eq_true rfl) hcs (kI ?_)
        refine r_goto (tgt := 49) (pc := 41) dX5_as_41 (by decide) ?_
        exact r_iret (pc := 49) dX5_as_49 rfl (by subst hPP; exact (by first | exact Or.inr ⟨k, q, hk, hqb, rfl, rfl, Or.inl ⟨by rw [ed]; exact h33, rfl, rfl⟩⟩ | exact Or.inr ⟨k, q, hk, hqb, rfl, rfl, Or.inr ⟨by rw [ed]; exact h33, rfl, rfl⟩⟩))
    · have g14 : ¬ rgG 0 5 y := fun z => h14 (rg_mpr z (by omega))
      refine r_ldc (pc := 17) dX5_as_17 lk_X5_67 ?_
      exact r_iret (pc := 19) dX5_as_19 rfl (by subst hPP; exact (Or.inl ⟨by first | exact fun z => g5 z.1 | exact fun z => g14 z.2, rfl, rfl⟩))
set_option maxHeartbeats 4000000 in
set_option maxRecDepth 100000 in
theorem c_X5_image (l : Launch) (G : Gx) (M : Mem) (x : Int32) (n : Nat) (hn : M 18 0 = nI n) (hn6 : n ≤ 6) : Con l G yX5_image cX5_image 2 (some .int) 2 81 [.ref (gA G 14), .int x] M (fun v M' => (¬ rgG 0 1 x ∧ rI cBad M v M') ∨ (∃ k, k ≤ 1 ∧ x = nI k ∧ ((n = 0 ∧ rI cState M v M') ∨ (0 < n ∧ rI (nI 1) (mset (setA M (85 + k) (WA M 18 (M (85 + k)))) 14 9 (M 14 9 ||| nI 1 <<< (nI k &&& 31))) v M')))) := by
  refine Con.ofV [some (.ref (gA G 14)), some (.int x)] RX5 (by decide) rfl (Nat.le_of_ble_eq_true rfl) rfl ?_
  intro κ hl hG hk0 hn0
  subst hl hG
  have hcs : κ.k ≤ 0 ∧ κ.n ≤ 0 := ⟨Nat.le_of_eq hk0, Nat.le_of_eq hn0⟩
  generalize hPP : (fun v M' => (¬ rgG 0 1 x ∧ rI cBad M v M') ∨ (∃ k, k ≤ 1 ∧ x = nI k ∧ ((n = 0 ∧ rI cState M v M') ∨ (0 < n ∧ rI (nI 1) (mset (setA M (85 + k) (WA M 18 (M (85 + k)))) 14 9 (M 14 9 ||| nI 1 <<< (nI k &&& 31))) v M')))) = PP
  refine r_iload_n (pc := 0) dX5_image_0 rfl ?_
  refine r_iconst (v := nI 0) (pc := 1) dX5_image_1 (by decide) ?_
  refine r_iconst (v := nI 1) (pc := 2) dX5_image_2 (by decide) ?_
  refine iv_X5_63 (c_X5_within _ _ _ _ _ _) (pc := 3) dX5_image_3 ⟨Nat.le_of_ble_eq_true rfl, Nat.le_of_ble_eq_true rfl⟩ (Nat.le_of_ble_eq_true rfl) hcs (kI ?_)
  refine r_ifne_b (tgt := 12) (pc := 6) dX5_image_6 (by decide) (fun h6 => ?_) (fun h6 => ?_)
  · obtain ⟨k, hka, hkb, rfl⟩ := rg_mp (a := 0) (b := 1) h6 (by omega) (by omega)
    refine r_aload_n (pc := 12) dX5_image_12 rfl ?_
    refine iv_X5_149 (c_X5_isEmpty _ _ _ n (by first | assumption | exact hm.1) hn6) (pc := 13) dX5_image_13 rfl ⟨Nat.le_of_ble_eq_true rfl, Nat.le_of_ble_eq_true rfl⟩ (Nat.le_of_ble_eq_true rfl) hcs (kI ?_)
    refine r_ifeq_b (tgt := 22) (pc := 16) dX5_image_16 (by decide) (fun h16 => ?_) (fun h16 => ?_)
    · have hn1 : 0 < n := Nat.pos_of_ne_zero h16
      refine r_aload_n (pc := 22) dX5_image_22 rfl ?_
      refine gf_X5_25 (pc := 23) dX5_image_23 rfl ?_
      refine r_aload_n (pc := 26) dX5_image_26 rfl ?_
      refine gf_X5_48 (pc := 27) dX5_image_27 rfl ?_
      refine r_iload_n (pc := 30) dX5_image_30 rfl ?_
      refine r_aaI (pc := 31) dX5_image_31 (by omega) ?_
      refine iv_X5_130 (c_X2_writeTo_18 _ _ _ (85 + k) (isIA_hi (by omega) (by omega)) (lenA_cells (by omega) (by omega)) (by omega)) (pc := 32) dX5_image_32 rfl ⟨Nat.le_of_ble_eq_true rfl, Nat.le_of_ble_eq_true rfl⟩ (Nat.le_of_ble_eq_true rfl) hcs (kV ?_)
      refine r_aload_n (pc := 35) dX5_image_35 rfl ?_
      refine r_dup (pc := 36) dX5_image_36 rfl ?_
      refine gf_X5_275 (pc := 37) dX5_image_37 rfl ?_
      refine r_is (M 14 9) (by rw [setA_ne _ _ (by omega)]) ?_
      refine r_iconst (v := nI 1) (pc := 40) dX5_image_40 (by decide) ?_
      refine r_iload_n (pc := 41) dX5_image_41 rfl ?_
      refine r_ishl (pc := 42) dX5_image_42 ?_
      refine r_ior (pc := 43) dX5_image_43 ?_
      refine pf_X5_275 (pc := 44) dX5_image_44 rfl ?_
      refine r_iconst (v := nI 1) (pc := 47) dX5_image_47 (by decide) ?_
      exact r_iret (pc := 48) dX5_image_48 rfl (by subst hPP; exact (Or.inr ⟨k, hkb, rfl, Or.inr ⟨hn1, rfl, rfl⟩⟩))
    · have g16 : n = 0 := h16
      refine r_ldc (pc := 19) dX5_image_19 lk_X5_148 ?_
      exact r_iret (pc := 21) dX5_image_21 rfl (by subst hPP; exact (Or.inr ⟨k, hkb, rfl, Or.inl ⟨g16, rfl, rfl⟩⟩))
  · have g6 : ¬ rgG 0 1 x := fun z => h6 (rg_mpr z (by omega))
    refine r_ldc (pc := 9) dX5_image_9 lk_X5_67 ?_
    exact r_iret (pc := 11) dX5_image_11 rfl (by subst hPP; exact (Or.inl ⟨g6, rfl, rfl⟩))
set_option maxHeartbeats 4000000 in
set_option maxRecDepth 100000 in
theorem c_X5_restore (l : Launch) (G : Gx) (M : Mem) (x : Int32) : Con l G yX5_restore cX5_restore 2 (some .int) 2 81 [.ref (gA G 14), .int x] M (fun v M' => (¬ rgG 0 1 x ∧ rI cBad M v M') ∨ (∃ k, k ≤ 1 ∧ x = nI k ∧ (((M 14 9 >>> (nI k &&& 31)) &&& nI 1 = 0 ∧ rI cState M v M') ∨ (¬ (M 14 9 >>> (nI k &&& 31)) &&& nI 1 = 0 ∧ rI (nI 1) (mset (RA M 18 (M (85 + k))) 40 2 (nI 0)) v M')))) := by
  refine Con.ofV [some (.ref (gA G 14)), some (.int x)] RX5 (by decide) rfl (Nat.le_of_ble_eq_true rfl) rfl ?_
  intro κ hl hG hk0 hn0
  subst hl hG
  have hcs : κ.k ≤ 0 ∧ κ.n ≤ 0 := ⟨Nat.le_of_eq hk0, Nat.le_of_eq hn0⟩
  generalize hPP : (fun v M' => (¬ rgG 0 1 x ∧ rI cBad M v M') ∨ (∃ k, k ≤ 1 ∧ x = nI k ∧ (((M 14 9 >>> (nI k &&& 31)) &&& nI 1 = 0 ∧ rI cState M v M') ∨ (¬ (M 14 9 >>> (nI k &&& 31)) &&& nI 1 = 0 ∧ rI (nI 1) (mset (RA M 18 (M (85 + k))) 40 2 (nI 0)) v M')))) = PP
  refine r_iload_n (pc := 0) dX5_restore_0 rfl ?_
  refine r_iconst (v := nI 0) (pc := 1) dX5_restore_1 (by decide) ?_
  refine r_iconst (v := nI 1) (pc := 2) dX5_restore_2 (by decide) ?_
  refine iv_X5_63 (c_X5_within _ _ _ _ _ _) (pc := 3) dX5_restore_3 ⟨Nat.le_of_ble_eq_true rfl, Nat.le_of_ble_eq_true rfl⟩ (Nat.le_of_ble_eq_true rfl) hcs (kI ?_)
  refine r_ifne_b (tgt := 12) (pc := 6) dX5_restore_6 (by decide) (fun h6 => ?_) (fun h6 => ?_)
  · obtain ⟨k, hka, hkb, rfl⟩ := rg_mp (a := 0) (b := 1) h6 (by omega) (by omega)
    refine r_aload_n (pc := 12) dX5_restore_12 rfl ?_
    refine gf_X5_275 (pc := 13) dX5_restore_13 rfl ?_
    refine r_iload_n (pc := 16) dX5_restore_16 rfl ?_
    refine r_ishr (pc := 17) dX5_restore_17 ?_
    refine r_iconst (v := nI 1) (pc := 18) dX5_restore_18 (by decide) ?_
    refine r_iand (pc := 19) dX5_restore_19 ?_
    refine r_if_ne (tgt := 26) (pc := 20) dX5_restore_20 (by decide) (fun h20 => ?_) (fun h20 => ?_)
    · refine r_aload_n (pc := 26) dX5_restore_26 rfl ?_
      refine gf_X5_25 (pc := 27) dX5_restore_27 rfl ?_
      refine r_aload_n (pc := 30) dX5_restore_30 rfl ?_
      refine gf_X5_48 (pc := 31) dX5_restore_31 rfl ?_
      refine r_iload_n (pc := 34) dX5_restore_34 rfl ?_
      refine r_aaI (pc := 35) dX5_restore_35 (by omega) ?_
      refine iv_X5_134 (c_X2_readFrom_18 _ _ _ (85 + k) (isIA_hi (by omega) (by omega)) (lenA_cells (by omega) (by omega)) (by omega)) (pc := 36) dX5_restore_36 rfl ⟨Nat.le_of_ble_eq_true rfl, Nat.le_of_ble_eq_true rfl⟩ (Nat.le_of_ble_eq_true rfl) hcs (kV ?_)
      refine r_aload_n (pc := 39) dX5_restore_39 rfl ?_
      refine gf_X5_42 (pc := 40) dX5_restore_40 rfl ?_
      refine iv_X5_137 (c_X1_forget _ _ _) (pc := 43) dX5_restore_43 rfl ⟨Nat.le_of_ble_eq_true rfl, Nat.le_of_ble_eq_true rfl⟩ (Nat.le_of_ble_eq_true rfl) hcs (kV ?_)
      refine r_iconst (v := nI 1) (pc := 46) dX5_restore_46 (by decide) ?_
      exact r_iret (pc := 47) dX5_restore_47 rfl (by subst hPP; exact (Or.inr ⟨k, hkb, rfl, Or.inr ⟨h20, rfl, rfl⟩⟩))
    · refine r_ldc (pc := 23) dX5_restore_23 lk_X5_148 ?_
      exact r_iret (pc := 25) dX5_restore_25 rfl (by subst hPP; exact (Or.inr ⟨k, hkb, rfl, Or.inl ⟨h20, rfl, rfl⟩⟩))
  · have g6 : ¬ rgG 0 1 x := fun z => h6 (rg_mpr z (by omega))
    refine r_ldc (pc := 9) dX5_restore_9 lk_X5_67 ?_
    exact r_iret (pc := 11) dX5_restore_11 rfl (by subst hPP; exact (Or.inl ⟨g6, rfl, rfl⟩))
set_option maxHeartbeats 4000000 in
set_option maxRecDepth 100000 in
theorem c_X5_leastOf (l : Launch) (G : Gx) (M : Mem) (p : Nat) (hp : p ≤ 2) : Con l G yX5_leastOf cX5_leastOf 1 (some .int) 0 0 [.int (nI p)] M (rI (nI (loW p)) M) := by
  refine Con.ofV [some (.int (nI p))] RX5 (by decide) rfl (Nat.le_of_ble_eq_true rfl) rfl ?_
  intro κ hl hG hk0 hn0
  subst hl hG
  have hcs : κ.k ≤ 0 ∧ κ.n ≤ 0 := ⟨Nat.le_of_eq hk0, Nat.le_of_eq hn0⟩
  refine r_iload_n (pc := 0) dX5_leastOf_0 rfl ?_
  refine r_if_ne (tgt := 8) (pc := 1) dX5_leastOf_1 (by decide) (fun h1 => ?_) (fun h1 => ?_)
  · have h0 : p ≠ 0 := fun z => h1 (by rw [z]; rfl)
    refine r_iconst (v := nI 0) (pc := 8) dX5_leastOf_8 (by decide) ?_
    exact r_iret (pc := 9) dX5_leastOf_9 rfl (by first | exact ⟨by rw [loW, if_pos h0], rfl⟩ | exact ⟨by rw [loW, if_neg h0], rfl⟩)
  · have h0 : p = 0 := (nI_eq (by omega) (by omega)).mp (h1.trans nI_0.symm)
    refine r_iconst (v := nI 1) (pc := 4) dX5_leastOf_4 (by decide) ?_
    refine r_goto (tgt := 9) (pc := 5) dX5_leastOf_5 (by decide) ?_
    exact r_iret (pc := 9) dX5_leastOf_9 rfl (by first | exact ⟨by rw [loW, if_pos h0], rfl⟩ | exact ⟨by rw [loW, if_neg h0], rfl⟩)
set_option maxHeartbeats 4000000 in
set_option maxRecDepth 100000 in
theorem c_X5_mostOf (l : Launch) (G : Gx) (M : Mem) (p : Nat) (hp : p ≤ 2) : Con l G yX5_mostOf cX5_mostOf 1 (some .int) 0 0 [.int (nI p)] M (rI (nI (hiW p)) M) := by
  refine Con.ofV [some (.int (nI p))] RX5 (by decide) rfl (Nat.le_of_ble_eq_true rfl) rfl ?_
  intro κ hl hG hk0 hn0
  subst hl hG
  have hcs : κ.k ≤ 0 ∧ κ.n ≤ 0 := ⟨Nat.le_of_eq hk0, Nat.le_of_eq hn0⟩
  refine r_iload_n (pc := 0) dX5_mostOf_0 rfl ?_
  refine r_if_ne (tgt := 6) (pc := 1) dX5_mostOf_1 (by decide) (fun h1 => ?_) (fun h1 => ?_)
  · have h0 : p ≠ 0 := fun z => h1 (by rw [z]; rfl)
    refine r_iload_n (pc := 6) dX5_mostOf_6 rfl ?_
    refine r_iconst (v := nI 1) (pc := 7) dX5_mostOf_7 (by decide) ?_
    refine r_icmp_ne (tgt := 16) (pc := 8) dX5_mostOf_8 (by decide) (fun h8 => ?_) (fun h8 => ?_)
    · have h2 : p ≠ 1 := fun z => h8 (by rw [z])
      refine r_iconst (v := nI 3) (pc := 16) dX5_mostOf_16 (by decide) ?_
      exact r_iret (pc := 17) dX5_mostOf_17 rfl (by first | exact ⟨by rw [hiW, if_neg h0, if_pos h2], rfl⟩ | exact ⟨by rw [hiW, if_neg h0, if_neg h2], rfl⟩)
    · have h2 : p = 1 := (nI_eq (by omega) (by omega)).mp h8
      refine r_bipush (v := nI 9) (pc := 11) dX5_mostOf_11 (by decide) ?_
      refine r_goto (tgt := 17) (pc := 13) dX5_mostOf_13 (by decide) ?_
      exact r_iret (pc := 17) dX5_mostOf_17 rfl (by first | exact ⟨by rw [hiW, if_neg h0, if_pos h2], rfl⟩ | exact ⟨by rw [hiW, if_neg h0, if_neg h2], rfl⟩)
  · have h0 : p = 0 := (nI_eq (by omega) (by omega)).mp (h1.trans nI_0.symm)
    refine r_iconst (v := nI 5) (pc := 4) dX5_mostOf_4 (by decide) ?_
    exact r_iret (pc := 5) dX5_mostOf_5 rfl ⟨by rw [hiW, if_pos h0], rfl⟩
set_option maxHeartbeats 4000000 in
set_option maxRecDepth 100000 in
theorem c_X5_suppose (l : Launch) (G : Gx) (M : Mem) (k p e : Nat) (S : Nat → Int32) (n : Nat) (hm : ms 28 n S M) (hn6 : n ≤ 6) (hk : k < 6) (hp : p ≤ 2) : Con l G yX5_suppose cX5_suppose 4 none 0 0 [.ref (gA G 14), .int (nI k), .int (nI p), .int (nI e)] M (qV (fun N5 => fpc M N5 ∧ ms 28 n (upd S (offW p + k) (nI e)) N5)) := by
  refine Con.ofV [some (.ref (gA G 14)), some (.int (nI k)), some (.int (nI p)), some (.int (nI e))] RX5 (by decide) rfl (Nat.le_of_ble_eq_true rfl) rfl ?_
  intro κ hl hG hk0 hn0
  subst hl hG
  have hcs : κ.k ≤ 0 ∧ κ.n ≤ 0 := ⟨Nat.le_of_eq hk0, Nat.le_of_eq hn0⟩
  refine r_iload_n (pc := 0) dX5_suppose_0 rfl ?_
  refine r_if_ne (tgt := 17) (pc := 1) dX5_suppose_1 (by decide) (fun h1 => ?_) (fun h1 => ?_)
  · have h0 : p ≠ 0 := fun z => h1 (by rw [z]; rfl)
    refine r_iload_n (pc := 17) dX5_suppose_17 rfl ?_
    refine r_iconst (v := nI 1) (pc := 18) dX5_suppose_18 (by decide) ?_
    refine r_icmp_ne (tgt := 35) (pc := 19) dX5_suppose_19 (by decide) (fun h19 => ?_) (fun h19 => ?_)
    · have h2 : p ≠ 1 := fun z => h19 (by rw [z])
      refine r_aload_n (pc := 35) dX5_suppose_35 rfl ?_
      refine gf_X5_29 (pc := 36) dX5_suppose_36 rfl ?_
      refine gf_X5_207 (pc := 39) dX5_suppose_39 rfl ?_
      refine r_iload_n (pc := 42) dX5_suppose_42 rfl ?_
      refine r_iload_n (pc := 43) dX5_suppose_43 rfl ?_
      refine r_iast (pc := 44) dX5_suppose_44 rfl (show _ < 6 by omega) ?_
      exact r_vret (pc := 45) dX5_suppose_45 rfl (by first | exact ⟨rfl, (fpc.refl M).put 29 _ _ (by omega) (by omega), by rw [show offW p = 5 by rw [offW, if_pos h0]]; exact hm.put (j := 1) (p := 5) (by omega) hk hn6 _⟩ | exact ⟨rfl, (fpc.refl M).put 32 _ _ (by omega) (by omega), by rw [show offW p = 17 by rw [offW, if_neg h0, if_pos h2]]; exact hm.put (j := 4) (p := 17) (by omega) hk hn6 _⟩ | exact ⟨rfl, (fpc.refl M).put 33 _ _ (by omega) (by omega), by rw [show offW p = 23 by rw [offW, if_neg h0, if_neg h2]]; exact hm.put (j := 5) (p := 23) (by omega) hk hn6 _⟩)
    · have h2 : p = 1 := (nI_eq (by omega) (by omega)).mp h19
      refine r_aload_n (pc := 22) dX5_suppose_22 rfl ?_
      refine gf_X5_29 (pc := 23) dX5_suppose_23 rfl ?_
      refine gf_X5_198 (pc := 26) dX5_suppose_26 rfl ?_
      refine r_iload_n (pc := 29) dX5_suppose_29 rfl ?_
      refine r_iload_n (pc := 30) dX5_suppose_30 rfl ?_
      refine r_iast (pc := 31) dX5_suppose_31 rfl (show _ < 6 by omega) ?_
      refine r_goto (tgt := 45) (pc := 32) dX5_suppose_32 (by decide) ?_
      exact r_vret (pc := 45) dX5_suppose_45 rfl (by first | exact ⟨rfl, (fpc.refl M).put 29 _ _ (by omega) (by omega), by rw [show offW p = 5 by rw [offW, if_pos h0]]; exact hm.put (j := 1) (p := 5) (by omega) hk hn6 _⟩ | exact ⟨rfl, (fpc.refl M).put 32 _ _ (by omega) (by omega), by rw [show offW p = 17 by rw [offW, if_neg h0, if_pos h2]]; exact hm.put (j := 4) (p := 17) (by omega) hk hn6 _⟩ | exact ⟨rfl, (fpc.refl M).put 33 _ _ (by omega) (by omega), by rw [show offW p = 23 by rw [offW, if_neg h0, if_neg h2]]; exact hm.put (j := 5) (p := 23) (by omega) hk hn6 _⟩)
  · have h0 : p = 0 := (nI_eq (by omega) (by omega)).mp (h1.trans nI_0.symm)
    refine r_aload_n (pc := 4) dX5_suppose_4 rfl ?_
    refine gf_X5_29 (pc := 5) dX5_suppose_5 rfl ?_
    refine gf_X5_278 (pc := 8) dX5_suppose_8 rfl ?_
    refine r_iload_n (pc := 11) dX5_suppose_11 rfl ?_
    refine r_iload_n (pc := 12) dX5_suppose_12 rfl ?_
    refine r_iast (pc := 13) dX5_suppose_13 rfl (show _ < 6 by omega) ?_
    refine r_goto (tgt := 45) (pc := 14) dX5_suppose_14 (by decide) ?_
    exact r_vret (pc := 45) dX5_suppose_45 rfl (by first | exact ⟨rfl, (fpc.refl M).put 29 _ _ (by omega) (by omega), by rw [show offW p = 5 by rw [offW, if_pos h0]]; exact hm.put (j := 1) (p := 5) (by omega) hk hn6 _⟩ | exact ⟨rfl, (fpc.refl M).put 32 _ _ (by omega) (by omega), by rw [show offW p = 17 by rw [offW, if_neg h0, if_pos h2]]; exact hm.put (j := 4) (p := 17) (by omega) hk hn6 _⟩ | exact ⟨rfl, (fpc.refl M).put 33 _ _ (by omega) (by omega), by rw [show offW p = 23 by rw [offW, if_neg h0, if_neg h2]]; exact hm.put (j := 5) (p := 23) (by omega) hk hn6 _⟩)
set_option maxHeartbeats 4000000 in
set_option maxRecDepth 100000 in
theorem c_X5_comesTrue (l : Launch) (G : Gx) (M : Mem) (o r t m : Nat) (hr : r ≤ 7) (ht : t + m ≤ 40) (Jt : Nat → Int32) (hJt : ∀ i, i < m → M (53 + r) (t + i) = Jt i) (T : Nat → Int32) (n : Nat) (hm : ms 28 n T M) (hR : Rg n T) (hn1 : 0 < n) (ho : o < n) : Con l G yX5_comesTrue cX5_comesTrue 6 (some .boolean) 3 107 [.ref (gA G 14), .int (nI o), .ref (gA G (45 + r)), .int (nI t), .int (nI m)] M (qI (bI (soB Jt (fun i => highS (goP T n (i + 1)) o) m = true)) (fpc M)) := by
  refine Con.ofV [some (.ref (gA G 14)), some (.int (nI o)), some (.ref (gA G (45 + r))), some (.int (nI t)), some (.int (nI m)), none] RX5 (by decide) rfl (Nat.le_of_ble_eq_true rfl) rfl ?_
  intro κ hl hG hk0 hn0
  subst hl hG
  have hcs : κ.k ≤ 0 ∧ κ.n ≤ 0 := ⟨Nat.le_of_eq hk0, Nat.le_of_eq hn0⟩
  have hn6 := hR.1
  refine r_iconst (v := nI 0) (pc := 0) dX5_comesTrue_0 (by decide) ?_
  refine r_st [_, _, _, _, _, _] (pc := 1) dX5_comesTrue_1 (by decide) rfl rfl ?_
  refine V.bk (loopV (fun (σ : Nat × Mem) => V κ cX5_comesTrue RX5 6 (some .boolean) (rmx 3 107) (QM κ (qI (bI (soB Jt (fun i => highS (goP T n (i + 1)) o) m = true)) (fpc M))) (σ.2) 3 [some (.ref (gA κ.G 14)), some (.int (nI o)), some (.ref (gA κ.G (45 + r))), some (.int (nI t)), some (.int (nI m)), some (.int (nI (σ.1)))] []) (fun (σ : Nat × Mem) => (σ.1) ≤ m ∧ fpc M (σ.2) ∧ ms 28 n (goP T n (σ.1)) (σ.2) ∧ soB Jt (fun i => highS (goP T n (i + 1)) o) (σ.1) = true) (fun (σ : Nat × Mem) => m - (σ.1)) ?_ (0, M) ⟨Nat.zero_le _, fpc.refl _, hm, rfl⟩) rfl (by (repeat (first | exact wk_0 | refine wk_n ?_ | refine wk_s rfl ?_)); done)
  rintro ⟨j, N⟩ hI0 ih
  dsimp only at hI0 ih
  obtain ⟨hj, hf, hmj, hso⟩ := hI0
  show V κ cX5_comesTrue RX5 6 (some .boolean) (rmx 3 107) (QM κ (qI (bI (soB Jt (fun i => highS (goP T n (i + 1)) o) m = true)) (fpc M))) N 3 [some (.ref (gA κ.G 14)), some (.int (nI o)), some (.ref (gA κ.G (45 + r))), some (.int (nI t)), some (.int (nI m)), some (.int (nI j))] []
  refine r_iload (pc := 3) dX5_comesTrue_3 rfl ?_
  refine r_iload (pc := 5) dX5_comesTrue_5 rfl ?_
  refine r_icmp_ge (tgt := 46) (pc := 7) dX5_comesTrue_7 (by decide) (fun h7 => ?_) (fun h7 => ?_)
  · have h7 : m ≤ j := (nI_leI (by omega) (by omega)).mp h7
    obtain rfl : m = j := by omega
    have hp := hso
    refine r_iconst (v := nI 1) (pc := 46) dX5_comesTrue_46 (by decide) ?_
    exact r_zret (pc := 47) dX5_comesTrue_47 rfl (by first | rfl | exact bI_narrow) ⟨by rw [bI_t hp], hf⟩
  · have h7 : j < m := Nat.not_le.mp (fun z => h7 ((nI_leI (by omega) (by omega)).mpr z))
    refine r_aload_n (pc := 10) dX5_comesTrue_10 rfl ?_
    refine gf_X5_29 (pc := 11) dX5_comesTrue_11 rfl ?_
    refine iv_X5_159 (c_X2_passNight_28 _ _ _ (goP T n j) n hmj (hR.go hn1 j) hn1) (pc := 14) dX5_comesTrue_14 rfl ⟨Nat.le_of_ble_eq_true rfl, Nat.le_of_ble_eq_true rfl⟩ (Nat.le_of_ble_eq_true rfl) hcs (kqI (fun N14 r14 => ?_))
    refine r_pop (pc := 17) dX5_comesTrue_17 rfl ?_
    refine r_aload_n (pc := 18) dX5_comesTrue_18 rfl ?_
    refine gf_X5_29 (pc := 19) dX5_comesTrue_19 rfl ?_
    refine r_iload_n (pc := 22) dX5_comesTrue_22 rfl ?_
    refine iv_X5_201 (c_X2_highOf_28 _ _ _ o (goP T n (j + 1)) n r14.2 (hR.go hn1 (j + 1)) ho) (pc := 23) dX5_comesTrue_23 rfl ⟨Nat.le_of_ble_eq_true rfl, Nat.le_of_ble_eq_true rfl⟩ (Nat.le_of_ble_eq_true rfl) hcs (kI ?_)
    refine r_aload_n (pc := 26) dX5_comesTrue_26 rfl ?_
    refine gf_X5_99 (pc := 27) dX5_comesTrue_27 (clsO_row (by omega) (by omega)) ?_
    refine r_iload_n (pc := 30) dX5_comesTrue_30 rfl ?_
    refine r_iload (pc := 31) dX5_comesTrue_31 rfl ?_
    first | with_reducible refine r_iaddN (pc := 33) dX5_comesTrue_33 ?_ | refine r_iadd (pc := 33) dX5_comesTrue_33 ?_
    refine r_iald (pc := 34) dX5_comesTrue_34 (isIA_hi (by omega) (by omega)) (by rw [lenA_items (by omega) (by omega)]; omega) ?_
    refine r_is (Jt j) (by rw [show 45 + r + 8 = 53 + r by omega, (hf.trans r14.1.fpp) _ (by omega)]; exact hJt _ (by omega)) ?_
    refine r_icmp_eq (tgt := 40) (pc := 35) dX5_comesTrue_35 (by decide) (fun h35 => ?_) (fun h35 => ?_)
    · first | refine r_inc [_, _, _, _, _, _] (pc := 40) dX5_comesTrue_40 rfl (nI_inc _) (by decide) rfl rfl ?_ | refine r_inc [_, _, _, _, _, _] (pc := 40) dX5_comesTrue_40 rfl rfl (by decide) rfl rfl ?_
      refine r_goto (tgt := 3) (pc := 43) dX5_comesTrue_43 (by decide) ?_
      exact V.bk (ih (j + 1, N14) ⟨by dsimp only; omega, hf.trans r14.1.fpp, r14.2, by rw [soB, hso]; exact decide_eq_true h35.symm⟩ (by dsimp only; omega)) rfl (by (repeat (first | exact wk_0 | refine wk_n ?_ | refine wk_s rfl ?_)); done)
    · have hp : ¬ soB Jt (fun i => highS (goP T n (i + 1)) o) m = true := soB_no (j := j) (fun z => h35 z.symm) m (by omega)
      refine r_iconst (v := nI 0) (pc := 38) dX5_comesTrue_38 (by decide) ?_
      exact r_zret (pc := 39) dX5_comesTrue_39 rfl (by first | rfl | exact bI_narrow) ⟨by rw [bI_f hp], hf.trans r14.1.fpp⟩
set_option maxHeartbeats 4000000 in
set_option maxRecDepth 100000 in
theorem c_X5_who (l : Launch) (G : Gx) (M : Mem) (x y z l1 i w : Int32) (S : Nat → Int32) (n : Nat) (hm : ms 18 n S M) (hR : Rg n S) (hW : rwR M) : Con l G yX5_who cX5_who 10 (some .int) 4 132 [.ref (gA G 14), .int x, .int y, .int z, .int l1, .int i, .int w] M (fun (v : Option Value) (M' : Mem) => (¬ (chG n x ∧ rgG 0 2 y ∧ chG n z ∧ rgG 0 7 l1 ∧ rgG 1 12 w) ∧ rI cBad M v M') ∨ (∃ k p o r m c, k < n ∧ p ≤ 2 ∧ o < n ∧ r ≤ 7 ∧ 1 ≤ m ∧ m ≤ 12 ∧ x = nI k ∧ y = nI p ∧ z = nI o ∧ l1 = nI r ∧ w = nI m ∧ LC (M 2 r) i m c ∧ ((c ≠ 0 ∧ c ≤ 2 ∧ rI (fnV c) (mset M 14 11 (nI c)) v M') ∨ (c = 0 ∧ ∃ t, i = nI t ∧ t + m ≤ 40 ∧ qI (wbN (fun ee => soB (fun i => M 3 (40 * r + t + i)) (fun i => highS (goP (upd S (offW p + k) (nI ee)) n (i + 1)) o) m) (loW p) (hiW p + 1)) (fpc (mset M 14 11 (nI 0))) v M')))) := by
  refine Con.ofV [some (.ref (gA G 14)), some (.int x), some (.int y), some (.int z), some (.int l1), some (.int i), some (.int w), none, none, none] RX5 (by decide) rfl (Nat.le_of_ble_eq_true rfl) rfl ?_
  intro κ hl hG hk0 hn0
  subst hl hG
  have hcs : κ.k ≤ 0 ∧ κ.n ≤ 0 := ⟨Nat.le_of_eq hk0, Nat.le_of_eq hn0⟩
  generalize hPP : (fun (v : Option Value) (M' : Mem) => (¬ (chG n x ∧ rgG 0 2 y ∧ chG n z ∧ rgG 0 7 l1 ∧ rgG 1 12 w) ∧ rI cBad M v M') ∨ (∃ k p o r m c, k < n ∧ p ≤ 2 ∧ o < n ∧ r ≤ 7 ∧ 1 ≤ m ∧ m ≤ 12 ∧ x = nI k ∧ y = nI p ∧ z = nI o ∧ l1 = nI r ∧ w = nI m ∧ LC (M 2 r) i m c ∧ ((c ≠ 0 ∧ c ≤ 2 ∧ rI (fnV c) (mset M 14 11 (nI c)) v M') ∨ (c = 0 ∧ ∃ t, i = nI t ∧ t + m ≤ 40 ∧ qI (wbN (fun ee => soB (fun i => M 3 (40 * r + t + i)) (fun i => highS (goP (upd S (offW p + k) (nI ee)) n (i + 1)) o) m) (loW p) (hiW p + 1)) (fpc (mset M 14 11 (nI 0))) v M')))) = PP
  have hn := hm.1
  have hn6 := hR.1
  refine r_aload_n (pc := 0) dX5_who_0 rfl ?_
  refine r_iload_n (pc := 1) dX5_who_1 rfl ?_
  refine iv_X5_165 (c_X5_isChair _ _ _ _) (pc := 2) dX5_who_2 rfl ⟨Nat.le_of_ble_eq_true rfl, Nat.le_of_ble_eq_true rfl⟩ (Nat.le_of_ble_eq_true rfl) hcs (kI ?_)
  refine r_ifeq_b (tgt := 44) (pc := 5) dX5_who_5 (by decide) (fun h5 => ?_) (fun h5 => ?_)
  · have g5 : ¬ chG n x := fun z => h5 (ch_mpr hn hn6 z)
    refine r_ldc (pc := 44) dX5_who_44 lk_X5_67 ?_
    exact r_iret (pc := 46) dX5_who_46 rfl (by subst hPP; exact (Or.inl ⟨by first | exact fun z => g5 z.1 | exact fun z => g14 z.2.1 | exact fun z => g22 z.2.2.1 | exact fun z => g30 z.2.2.2.1 | exact fun z => g41 z.2.2.2.2, rfl, rfl⟩))
  · obtain ⟨k, hk, rfl⟩ := ch_mp hn hn6 h5
    refine r_iload_n (pc := 8) dX5_who_8 rfl ?_
    refine r_iconst (v := nI 0) (pc := 9) dX5_who_9 (by decide) ?_
    refine r_iconst (v := nI 2) (pc := 10) dX5_who_10 (by decide) ?_
    refine iv_X5_63 (c_X5_within _ _ _ _ _ _) (pc := 11) dX5_who_11 ⟨Nat.le_of_ble_eq_true rfl, Nat.le_of_ble_eq_true rfl⟩ (Nat.le_of_ble_eq_true rfl) hcs (kI ?_)
    refine r_ifeq_b (tgt := 44) (pc := 14) dX5_who_14 (by decide) (fun h14 => ?_) (fun h14 => ?_)
    · have g14 : ¬ rgG 0 2 y := fun z => h14 (rg_mpr z (by omega))
      refine r_ldc (pc := 44) dX5_who_44 lk_X5_67 ?_
      exact r_iret (pc := 46) dX5_who_46 rfl (by subst hPP; exact (Or.inl ⟨by first | exact fun z => g5 z.1 | exact fun z => g14 z.2.1 | exact fun z => g22 z.2.2.1 | exact fun z => g30 z.2.2.2.1 | exact fun z => g41 z.2.2.2.2, rfl, rfl⟩))
    · obtain ⟨p, hpa, hpb, rfl⟩ := rg_mp (a := 0) (b := 2) h14 (by omega) (by omega)
      refine r_aload_n (pc := 17) dX5_who_17 rfl ?_
      refine r_iload_n (pc := 18) dX5_who_18 rfl ?_
      refine iv_X5_165 (c_X5_isChair _ _ _ _) (pc := 19) dX5_who_19 rfl ⟨Nat.le_of_ble_eq_true rfl, Nat.le_of_ble_eq_true rfl⟩ (Nat.le_of_ble_eq_true rfl) hcs (kI ?_)
      refine r_ifeq_b (tgt := 44) (pc := 22) dX5_who_22 (by decide) (fun h22 => ?_) (fun h22 => ?_)
      · have g22 : ¬ chG n z := fun z => h22 (ch_mpr hn hn6 z)
        refine r_ldc (pc := 44) dX5_who_44 lk_X5_67 ?_
        exact r_iret (pc := 46) dX5_who_46 rfl (by subst hPP; exact (Or.inl ⟨by first | exact fun z => g5 z.1 | exact fun z => g14 z.2.1 | exact fun z => g22 z.2.2.1 | exact fun z => g30 z.2.2.2.1 | exact fun z => g41 z.2.2.2.2, rfl, rfl⟩))
      · obtain ⟨o, ho, rfl⟩ := ch_mp hn hn6 h22
        refine r_iload (pc := 25) dX5_who_25 rfl ?_
        refine iv_X5_59 (c_X5_isRow _ _ _ _) (pc := 27) dX5_who_27 ⟨Nat.le_of_ble_eq_true rfl, Nat.le_of_ble_eq_true rfl⟩ (Nat.le_of_ble_eq_true rfl) hcs (kI ?_)
        refine r_ifeq_b (tgt := 44) (pc := 30) dX5_who_30 (by decide) (fun h30 => ?_) (fun h30 => ?_)
        · have g30 : ¬ rgG 0 7 l1 := fun z => h30 (rg_mpr z (by omega))
          refine r_ldc (pc := 44) dX5_who_44 lk_X5_67 ?_
          exact r_iret (pc := 46) dX5_who_46 rfl (by subst hPP; exact (Or.inl ⟨by first | exact fun z => g5 z.1 | exact fun z => g14 z.2.1 | exact fun z => g22 z.2.2.1 | exact fun z => g30 z.2.2.2.1 | exact fun z => g41 z.2.2.2.2, rfl, rfl⟩))
        · obtain ⟨r, -, hr, rfl⟩ := rg_mp (a := 0) (b := 7) h30 (by omega) (by omega)
          refine r_iload (pc := 33) dX5_who_33 rfl ?_
          refine r_iconst (v := nI 1) (pc := 35) dX5_who_35 (by decide) ?_
          refine r_bipush (v := nI 12) (pc := 36) dX5_who_36 (by decide) ?_
          refine iv_X5_63 (c_X5_within _ _ _ _ _ _) (pc := 38) dX5_who_38 ⟨Nat.le_of_ble_eq_true rfl, Nat.le_of_ble_eq_true rfl⟩ (Nat.le_of_ble_eq_true rfl) hcs (kI ?_)
          refine r_ifne_b (tgt := 47) (pc := 41) dX5_who_41 (by decide) (fun h41 => ?_) (fun h41 => ?_)
          · obtain ⟨m, hma, hmb, rfl⟩ := rg_mp (a := 1) (b := 12) h41 (by omega) (by omega)
            refine r_aload_n (pc := 47) dX5_who_47 rfl ?_
            refine r_iload (pc := 48) dX5_who_48 rfl ?_
            refine r_iload (pc := 50) dX5_who_50 rfl ?_
            refine r_iload (pc := 52) dX5_who_52 rfl ?_
            refine iv_X5_79 (c_X5_findingOfItems _ _ _ r hr i m (by omega) hW) (pc := 54) dX5_who_54 rfl ⟨Nat.le_of_ble_eq_true rfl, Nat.le_of_ble_eq_true rfl⟩ (Nat.le_of_ble_eq_true rfl) hcs (kqE (fun c54 N54 r54 => ?_))
            obtain ⟨hc2, hLC, rfl⟩ := r54
            refine r_st [_, _, _, _, _, _, _, _, _, _] (pc := 57) dX5_who_57 (by decide) rfl rfl ?_
            refine r_iload (pc := 59) dX5_who_59 rfl ?_
            refine r_if_eq (tgt := 71) (pc := 61) dX5_who_61 (by decide) (fun h61 => ?_) (fun h61 => ?_)
            · have hc0 : c54 = 0 := (nI_eq (by omega) (by omega)).mp (h61.trans nI_0.symm)
              subst hc0
              obtain ⟨s, t, hs, hs40, rfl, ht⟩ := LC_0 hLC
              obtain ⟨s2, l2, -, -, -, -, -, -, hit⟩ := (hW r hr).resolve_left (fun z => by rw [hs] at z; exact nI_pos (by omega) z.1)
              have hlh := lohiW p
              have hn1 : 0 < n := by omega
              refine r_iconst (v := nI 0) (pc := 71) dX5_who_71 (by decide) ?_
              refine r_st [_, _, _, _, _, _, _, _, _, _] (pc := 72) dX5_who_72 (by decide) rfl rfl ?_
              refine r_iload_n (pc := 74) dX5_who_74 rfl ?_
              refine iv_X5_241 (c_X5_leastOf _ _ _ _ (by omega)) (pc := 75) dX5_who_75 ⟨Nat.le_of_ble_eq_true rfl, Nat.le_of_ble_eq_true rfl⟩ (Nat.le_of_ble_eq_true rfl) hcs (kI ?_)
              refine r_st [_, _, _, _, _, _, _, _, _, _] (pc := 78) dX5_who_78 (by decide) rfl rfl ?_
              refine V.bk (loopV (fun (σ : Nat × Mem) => V κ cX5_who RX5 10 (some .int) (rmx 4 132) (QM κ PP) (σ.2) 80 [some (.ref (gA κ.G 14)), some (.int (nI k)), some (.int (nI p)), some (.int (nI o)), some (.int (nI r)), some (.int (nI t)), some (.int (nI m)), none, some (.int (wbN (fun ee => soB (fun i => M 3 (40 * r + t + i)) (fun i => highS (goP (upd S (offW p + k) (nI ee)) n (i + 1)) o) m) (loW p) (σ.1))), some (.int (nI (σ.1)))] []) (fun (σ : Nat × Mem) => loW p ≤ (σ.1) ∧ (σ.1) ≤ hiW p + 1 ∧ fpc M (σ.2)) (fun (σ : Nat × Mem) => hiW p + 1 - (σ.1)) ?_ (loW p, M) ⟨Nat.le_refl _, by dsimp only; omega, fpc.refl _⟩) rfl (by rw [wbN_lo _ _ _ (Nat.le_refl _)]; (repeat (first | exact wk_0 | refine wk_n ?_ | refine wk_s rfl ?_)); done)
              rintro ⟨e, N⟩ hI0 ih
              dsimp only at hI0 ih
              obtain ⟨hel, hem, hf⟩ := hI0
              show V κ cX5_who RX5 10 (some .int) (rmx 4 132) (QM κ PP) N 80 [some (.ref (gA κ.G 14)), some (.int (nI k)), some (.int (nI p)), some (.int (nI o)), some (.int (nI r)), some (.int (nI t)), some (.int (nI m)), none, some (.int (wbN (fun ee => soB (fun i => M 3 (40 * r + t + i)) (fun i => highS (goP (upd S (offW p + k) (nI ee)) n (i + 1)) o) m) (loW p) e)), some (.int (nI e))] []
              refine r_iload (pc := 80) dX5_who_80 rfl ?_
              refine r_iload_n (pc := 82) dX5_who_82 rfl ?_
              refine iv_X5_244 (c_X5_mostOf _ _ _ _ (by omega)) (pc := 83) dX5_who_83 ⟨Nat.le_of_ble_eq_true rfl, Nat.le_of_ble_eq_true rfl⟩ (Nat.le_of_ble_eq_true rfl) hcs (kI ?_)
              refine r_icmp_gt (tgt := 135) (pc := 86) dX5_who_86 (by decide) (fun h86 => ?_) (fun h86 => ?_)
              · have he2 : e = hiW p + 1 := by have := (nI_ltI (by omega) (by omega)).mp h86; omega
                subst he2
                refine r_aload_n (pc := 135) dX5_who_135 rfl ?_
                refine r_iload (pc := 136) dX5_who_136 rfl ?_
                refine iv_X5_76 (c_X5_nothingFound _ _ _ _) (pc := 138) dX5_who_138 rfl ⟨Nat.le_of_ble_eq_true rfl, Nat.le_of_ble_eq_true rfl⟩ (Nat.le_of_ble_eq_true rfl) hcs (kI ?_)
                exact r_iret (pc := 141) dX5_who_141 rfl (by subst hPP; exact (Or.inr ⟨k, p, o, r, m, 0, hk, hpb, ho, hr, hma, hmb, rfl, rfl, rfl, rfl, rfl, hLC, Or.inr ⟨rfl, t, rfl, by omega, rfl, fun q hq => by by_cases z : q = 14; subst z; rw [mset_eq, mset_eq, hf 14 (by omega)]; rw [mset_ne _ _ _ z, mset_ne _ _ _ z]; exact hf q hq⟩⟩))
              · have he2 : e ≤ hiW p := Nat.not_lt.mp (fun z => h86 (nI_lt z (by omega)))
                refine r_aload_n (pc := 89) dX5_who_89 rfl ?_
                refine iv_X5_213 (c_X5_foresee _ _ _ S n (hf.ms hm) hR) (pc := 90) dX5_who_90 rfl ⟨Nat.le_of_ble_eq_true rfl, Nat.le_of_ble_eq_true rfl⟩ (Nat.le_of_ble_eq_true rfl) hcs (kqV (fun N90 r90 => ?_))
                refine r_aload_n (pc := 93) dX5_who_93 rfl ?_
                refine r_iload_n (pc := 94) dX5_who_94 rfl ?_
                refine r_iload_n (pc := 95) dX5_who_95 rfl ?_
                refine r_iload (pc := 96) dX5_who_96 rfl ?_
                refine iv_X5_247 (c_X5_suppose _ _ _ k p e S n r90.2 hn6 (by omega) hpb) (pc := 98) dX5_who_98 rfl ⟨Nat.le_of_ble_eq_true rfl, Nat.le_of_ble_eq_true rfl⟩ (Nat.le_of_ble_eq_true rfl) hcs (kqV (fun N98 r98 => ?_))
                have hRe := hR.put (offW_r (k := k) hel he2) (show k < 6 by omega)
                have ff := (hf.trans r90.1).trans r98.1
                refine r_aload_n (pc := 101) dX5_who_101 rfl ?_
                refine r_iload_n (pc := 102) dX5_who_102 rfl ?_
                refine r_aload_n (pc := 103) dX5_who_103 rfl ?_
                refine gf_X5_11 (pc := 104) dX5_who_104 rfl ?_
                refine r_iload (pc := 107) dX5_who_107 rfl ?_
                refine r_aaR (pc := 109) dX5_who_109 (by omega) ?_
                refine r_iload (pc := 110) dX5_who_110 rfl ?_
                refine r_iload (pc := 112) dX5_who_112 rfl ?_
                refine iv_X5_251 (c_X5_comesTrue _ _ _ o r t m hr (by omega) (fun i => M 3 (40 * r + t + i)) (fun j hj => by rw [ff _ (by omega), hit _ (by omega)]; show M 3 (40 * r + (t + j)) = M 3 (40 * r + t + j); rw [Nat.add_assoc]) _ n r98.2 hRe hn1 ho) (pc := 114) dX5_who_114 rfl ⟨Nat.le_of_ble_eq_true rfl, Nat.le_of_ble_eq_true rfl⟩ (Nat.le_of_ble_eq_true rfl) hcs (kqI (fun N114 r114 => ?_))
                refine r_ifeq_b (tgt := 129) (pc := 117) dX5_who_117 (by decide) (fun h117 => ?_) (fun h117 => ?_)
                · have e9 : wbN (fun ee => soB (fun i => M 3 (40 * r + t + i)) (fun i => highS (goP (upd S (offW p + k) (nI ee)) n (i + 1)) o) m) (loW p) (e + 1) = wbN (fun ee => soB (fun i => M 3 (40 * r + t + i)) (fun i => highS (goP (upd S (offW p + k) (nI ee)) n (i + 1)) o) m) (loW p) e := by rw [wbN, if_pos hel, if_neg h117, or0]
                  first | refine r_inc [_, _, _, _, _, _, _, _, _, _] (pc := 129) dX5_who_129 rfl (nI_inc _) (by decide) rfl rfl ?_ | refine r_inc [_, _, _, _, _, _, _, _, _, _] (pc := 129) dX5_who_129 rfl rfl (by decide) rfl rfl ?_
                  refine r_goto (tgt := 80) (pc := 132) dX5_who_132 (by decide) ?_
                  refine V.bk (ih (e + 1, N114) ⟨by dsimp only; omega, by dsimp only; omega, ff.trans r114⟩ (by dsimp only; omega)) rfl ?_
                  dsimp only
                  rw [e9]
                  repeat (first | exact wk_0 | refine wk_n ?_ | refine wk_s rfl ?_)
                · have e9 : wbN (fun ee => soB (fun i => M 3 (40 * r + t + i)) (fun i => highS (goP (upd S (offW p + k) (nI ee)) n (i + 1)) o) m) (loW p) (e + 1) = wbN (fun ee => soB (fun i => M 3 (40 * r + t + i)) (fun i => highS (goP (upd S (offW p + k) (nI ee)) n (i + 1)) o) m) (loW p) e ||| nI 1 <<< (nI e &&& 31) := by rw [wbN, if_pos hel, if_pos h117]
                  skip
                  refine r_iload (pc := 120) dX5_who_120 rfl ?_
                  refine r_iconst (v := nI 1) (pc := 122) dX5_who_122 (by decide) ?_
                  refine r_iload (pc := 123) dX5_who_123 rfl ?_
                  refine r_ishl (pc := 125) dX5_who_125 ?_
                  refine r_ior (pc := 126) dX5_who_126 ?_
                  refine r_st [_, _, _, _, _, _, _, _, _, _] (pc := 127) dX5_who_127 (by decide) rfl rfl ?_
                  first | refine r_inc [_, _, _, _, _, _, _, _, _, _] (pc := 129) dX5_who_129 rfl (nI_inc _) (by decide) rfl rfl ?_ | refine r_inc [_, _, _, _, _, _, _, _, _, _] (pc := 129) dX5_who_129 rfl rfl (by decide) rfl rfl ?_
                  refine r_goto (tgt := 80) (pc := 132) dX5_who_132 (by decide) ?_
                  refine V.bk (ih (e + 1, N114) ⟨by dsimp only; omega, by dsimp only; omega, ff.trans r114⟩ (by dsimp only; omega)) rfl ?_
                  dsimp only
                  rw [e9]
                  repeat (first | exact wk_0 | refine wk_n ?_ | refine wk_s rfl ?_)
            · have hc0 : c54 ≠ 0 := fun z => h61 (by rw [z]; rfl)
              refine r_aload_n (pc := 64) dX5_who_64 rfl ?_
              refine r_iload (pc := 65) dX5_who_65 rfl ?_
              refine iv_X5_68 (c_X5_found _ _ _ _) (pc := 67) dX5_who_67 rfl ⟨Nat.le_of_ble_eq_true rfl, Nat.le_of_ble_eq_true rfl⟩ (Nat.le_of_ble_eq_true rfl) hcs (kI ?_)
              exact r_iret (pc := 70) dX5_who_70 rfl (by subst hPP; exact (Or.inr ⟨k, p, o, r, m, c54, hk, hpb, ho, hr, hma, hmb, rfl, rfl, rfl, rfl, rfl, hLC, Or.inl ⟨hc0, hc2, rfl, rfl⟩⟩))
          · have g41 : ¬ rgG 1 12 w := fun z => h41 (rg_mpr z (by omega))
            refine r_ldc (pc := 44) dX5_who_44 lk_X5_67 ?_
            exact r_iret (pc := 46) dX5_who_46 rfl (by subst hPP; exact (Or.inl ⟨by first | exact fun z => g5 z.1 | exact fun z => g14 z.2.1 | exact fun z => g22 z.2.2.1 | exact fun z => g30 z.2.2.2.1 | exact fun z => g41 z.2.2.2.2, rfl, rfl⟩))
set_option maxHeartbeats 4000000 in
set_option maxRecDepth 100000 in
theorem c_X5_guarded (l : Launch) (G : Gx) (M : Mem) (x l1 i w : Int32) (S : Nat → Int32) (n : Nat) (hm : ms 18 n S M) (hR : Rg n S) (hW : rwR M) : Con l G yX5_guarded cX5_guarded 8 (some .int) 4 132 [.ref (gA G 14), .int x, .int l1, .int i, .int w] M (fun (v : Option Value) (M' : Mem) => (¬ (chG n x ∧ rgG 0 7 l1 ∧ rgG 1 12 w) ∧ rI cBad M v M') ∨ (∃ k r m c, k < n ∧ r ≤ 7 ∧ 1 ≤ m ∧ m ≤ 12 ∧ x = nI k ∧ l1 = nI r ∧ w = nI m ∧ LC (M 2 r) i m c ∧ ((c ≠ 0 ∧ c ≤ 2 ∧ rI (fnV c) (mset M 14 11 (nI c)) v M') ∨ (c = 0 ∧ ∃ t, i = nI t ∧ t + m ≤ 40 ∧ qI (guN S (fun ee => soB (fun i => M 3 (40 * r + t + i)) (fun i => highS (goP (upd S 4 (S 4 ||| nI 1 <<< (nI ee &&& 31))) n (i + 1)) k) m) (if soB (fun i => M 3 (40 * r + t + i)) (fun i => highS (goP S n (i + 1)) k) m = true then nI 64 else nI 0) n) (fpc (mset M 14 11 (nI 0))) v M')))) := by
  refine Con.ofV [some (.ref (gA G 14)), some (.int x), some (.int l1), some (.int i), some (.int w), none, none, none] RX5 (by decide) rfl (Nat.le_of_ble_eq_true rfl) rfl ?_
  intro κ hl hG hk0 hn0
  subst hl hG
  have hcs : κ.k ≤ 0 ∧ κ.n ≤ 0 := ⟨Nat.le_of_eq hk0, Nat.le_of_eq hn0⟩
  generalize hPP : (fun (v : Option Value) (M' : Mem) => (¬ (chG n x ∧ rgG 0 7 l1 ∧ rgG 1 12 w) ∧ rI cBad M v M') ∨ (∃ k r m c, k < n ∧ r ≤ 7 ∧ 1 ≤ m ∧ m ≤ 12 ∧ x = nI k ∧ l1 = nI r ∧ w = nI m ∧ LC (M 2 r) i m c ∧ ((c ≠ 0 ∧ c ≤ 2 ∧ rI (fnV c) (mset M 14 11 (nI c)) v M') ∨ (c = 0 ∧ ∃ t, i = nI t ∧ t + m ≤ 40 ∧ qI (guN S (fun ee => soB (fun i => M 3 (40 * r + t + i)) (fun i => highS (goP (upd S 4 (S 4 ||| nI 1 <<< (nI ee &&& 31))) n (i + 1)) k) m) (if soB (fun i => M 3 (40 * r + t + i)) (fun i => highS (goP S n (i + 1)) k) m = true then nI 64 else nI 0) n) (fpc (mset M 14 11 (nI 0))) v M')))) = PP
  have hn := hm.1
  have hn6 := hR.1
  obtain ⟨ww, hw64, hw⟩ := hR.w
  refine r_aload_n (pc := 0) dX5_guarded_0 rfl ?_
  refine r_iload_n (pc := 1) dX5_guarded_1 rfl ?_
  refine iv_X5_165 (c_X5_isChair _ _ _ _) (pc := 2) dX5_guarded_2 rfl ⟨Nat.le_of_ble_eq_true rfl, Nat.le_of_ble_eq_true rfl⟩ (Nat.le_of_ble_eq_true rfl) hcs (kI ?_)
  refine r_ifeq_b (tgt := 26) (pc := 5) dX5_guarded_5 (by decide) (fun h5 => ?_) (fun h5 => ?_)
  · have g5 : ¬ chG n x := fun z => h5 (ch_mpr hn hn6 z)
    refine r_ldc (pc := 26) dX5_guarded_26 lk_X5_67 ?_
    exact r_iret (pc := 28) dX5_guarded_28 rfl (by subst hPP; exact (Or.inl ⟨by first | exact fun z => g5 z.1 | exact fun z => g12 z.2.1 | exact fun z => g23 z.2.2, rfl, rfl⟩))
  · obtain ⟨k, hk, rfl⟩ := ch_mp hn hn6 h5
    refine r_iload_n (pc := 8) dX5_guarded_8 rfl ?_
    refine iv_X5_59 (c_X5_isRow _ _ _ _) (pc := 9) dX5_guarded_9 ⟨Nat.le_of_ble_eq_true rfl, Nat.le_of_ble_eq_true rfl⟩ (Nat.le_of_ble_eq_true rfl) hcs (kI ?_)
    refine r_ifeq_b (tgt := 26) (pc := 12) dX5_guarded_12 (by decide) (fun h12 => ?_) (fun h12 => ?_)
    · have g12 : ¬ rgG 0 7 l1 := fun z => h12 (rg_mpr z (by omega))
      refine r_ldc (pc := 26) dX5_guarded_26 lk_X5_67 ?_
      exact r_iret (pc := 28) dX5_guarded_28 rfl (by subst hPP; exact (Or.inl ⟨by first | exact fun z => g5 z.1 | exact fun z => g12 z.2.1 | exact fun z => g23 z.2.2, rfl, rfl⟩))
    · obtain ⟨r, -, hr, rfl⟩ := rg_mp (a := 0) (b := 7) h12 (by omega) (by omega)
      refine r_iload (pc := 15) dX5_guarded_15 rfl ?_
      refine r_iconst (v := nI 1) (pc := 17) dX5_guarded_17 (by decide) ?_
      refine r_bipush (v := nI 12) (pc := 18) dX5_guarded_18 (by decide) ?_
      refine iv_X5_63 (c_X5_within _ _ _ _ _ _) (pc := 20) dX5_guarded_20 ⟨Nat.le_of_ble_eq_true rfl, Nat.le_of_ble_eq_true rfl⟩ (Nat.le_of_ble_eq_true rfl) hcs (kI ?_)
      refine r_ifne_b (tgt := 29) (pc := 23) dX5_guarded_23 (by decide) (fun h23 => ?_) (fun h23 => ?_)
      · obtain ⟨m, hma, hmb, rfl⟩ := rg_mp (a := 1) (b := 12) h23 (by omega) (by omega)
        refine r_aload_n (pc := 29) dX5_guarded_29 rfl ?_
        refine r_iload_n (pc := 30) dX5_guarded_30 rfl ?_
        refine r_iload_n (pc := 31) dX5_guarded_31 rfl ?_
        refine r_iload (pc := 32) dX5_guarded_32 rfl ?_
        refine iv_X5_79 (c_X5_findingOfItems _ _ _ r hr i m (by omega) hW) (pc := 34) dX5_guarded_34 rfl ⟨Nat.le_of_ble_eq_true rfl, Nat.le_of_ble_eq_true rfl⟩ (Nat.le_of_ble_eq_true rfl) hcs (kqE (fun c34 N34 r34 => ?_))
        obtain ⟨hc2, hLC, rfl⟩ := r34
        refine r_st [_, _, _, _, _, _, _, _] (pc := 37) dX5_guarded_37 (by decide) rfl rfl ?_
        refine r_iload (pc := 39) dX5_guarded_39 rfl ?_
        refine r_if_eq (tgt := 51) (pc := 41) dX5_guarded_41 (by decide) (fun h41 => ?_) (fun h41 => ?_)
        · have hc0 : c34 = 0 := (nI_eq (by omega) (by omega)).mp (h41.trans nI_0.symm)
          subst hc0
          obtain ⟨s, t, hs, hs40, rfl, ht⟩ := LC_0 hLC
          obtain ⟨s2, l2, -, -, -, -, -, -, hit⟩ := (hW r hr).resolve_left (fun z => by rw [hs] at z; exact nI_pos (by omega) z.1)
          have hn1 : 0 < n := by omega
          refine r_aload_n (pc := 51) dX5_guarded_51 rfl ?_
          refine iv_X5_213 (c_X5_foresee _ _ _ S n hm hR) (pc := 52) dX5_guarded_52 rfl ⟨Nat.le_of_ble_eq_true rfl, Nat.le_of_ble_eq_true rfl⟩ (Nat.le_of_ble_eq_true rfl) hcs (kqV (fun N52 r52 => ?_))
          refine r_aload_n (pc := 55) dX5_guarded_55 rfl ?_
          refine r_iload_n (pc := 56) dX5_guarded_56 rfl ?_
          refine r_aload_n (pc := 57) dX5_guarded_57 rfl ?_
          refine gf_X5_11 (pc := 58) dX5_guarded_58 rfl ?_
          refine r_iload_n (pc := 61) dX5_guarded_61 rfl ?_
          refine r_aaR (pc := 62) dX5_guarded_62 (by omega) ?_
          refine r_iload_n (pc := 63) dX5_guarded_63 rfl ?_
          refine r_iload (pc := 64) dX5_guarded_64 rfl ?_
          refine iv_X5_251 (c_X5_comesTrue _ _ _ k r t m hr (by omega) (fun i => M 3 (40 * r + t + i)) (fun j hj => by rw [r52.1 _ (by omega), hit _ (by omega)]; show M 3 (40 * r + (t + j)) = M 3 (40 * r + t + j); rw [Nat.add_assoc]) S n r52.2 hR hn1 hk) (pc := 66) dX5_guarded_66 rfl ⟨Nat.le_of_ble_eq_true rfl, Nat.le_of_ble_eq_true rfl⟩ (Nat.le_of_ble_eq_true rfl) hcs (kqI (fun N66 r66 => ?_))
          refine t_ifeq_b (tgt := 77) (J := 78) (a := ?pA69x1) (b := ?pB69x1) (pc := 69) dX5_guarded_69 (by decide) (fun k69x1 => ?pT69x1) (fun k69x1 => ?pF69x1) ?pK69x1
          case pT69x1 =>
            refine r_iconst (v := nI 0) (pc := 77) dX5_guarded_77 (by decide) ?_
            exact k69x1
          case pF69x1 =>
            refine r_bipush (v := nI 64) (pc := 72) dX5_guarded_72 (by decide) ?_
            refine r_goto (tgt := 78) (pc := 74) dX5_guarded_74 (by decide) ?_
            exact k69x1
          case pK69x1 =>
            refine r_st [_, _, _, _, _, _, _, _] (pc := 78) dX5_guarded_78 (by decide) rfl rfl ?_
            refine r_iconst (v := nI 0) (pc := 80) dX5_guarded_80 (by decide) ?_
            refine r_st [_, _, _, _, _, _, _, _] (pc := 81) dX5_guarded_81 (by decide) rfl rfl ?_
            refine V.bk (loopV (fun (σ : Nat × Mem) => V κ cX5_guarded RX5 8 (some .int) (rmx 4 132) (QM κ PP) (σ.2) 83 [some (.ref (gA κ.G 14)), some (.int (nI k)), some (.int (nI r)), some (.int (nI t)), some (.int (nI m)), none, some (.int (guN S (fun ee => soB (fun i => M 3 (40 * r + t + i)) (fun i => highS (goP (upd S 4 (S 4 ||| nI 1 <<< (nI ee &&& 31))) n (i + 1)) k) m) (if soB (fun i => M 3 (40 * r + t + i)) (fun i => highS (goP S n (i + 1)) k) m = true then nI 64 else nI 0) (σ.1))), some (.int (nI (σ.1)))] []) (fun (σ : Nat × Mem) => (σ.1) ≤ n ∧ fpc M (σ.2)) (fun (σ : Nat × Mem) => n - (σ.1)) ?_ (0, N66) ⟨Nat.zero_le _, r52.1.trans r66⟩) rfl (by (repeat (first | exact wk_0 | refine wk_n ?_ | refine wk_s rfl ?_)); done)
            rintro ⟨e, N⟩ hI0 ih
            dsimp only at hI0 ih
            obtain ⟨he, hf⟩ := hI0
            show V κ cX5_guarded RX5 8 (some .int) (rmx 4 132) (QM κ PP) N 83 [some (.ref (gA κ.G 14)), some (.int (nI k)), some (.int (nI r)), some (.int (nI t)), some (.int (nI m)), none, some (.int (guN S (fun ee => soB (fun i => M 3 (40 * r + t + i)) (fun i => highS (goP (upd S 4 (S 4 ||| nI 1 <<< (nI ee &&& 31))) n (i + 1)) k) m) (if soB (fun i => M 3 (40 * r + t + i)) (fun i => highS (goP S n (i + 1)) k) m = true then nI 64 else nI 0) e)), some (.int (nI e))] []
            refine r_iload (pc := 83) dX5_guarded_83 rfl ?_
            refine r_aload_n (pc := 85) dX5_guarded_85 rfl ?_
            refine gf_X5_25 (pc := 86) dX5_guarded_86 rfl ?_
            refine gf_X5_140 (pc := 89) dX5_guarded_89 rfl ?_
            refine r_is (nI n) ((hf.ms hm).1) ?_
            refine r_icmp_ge (tgt := 162) (pc := 92) dX5_guarded_92 (by decide) (fun h92 => ?_) (fun h92 => ?_)
            · have h92 : n ≤ e := (nI_leI (by omega) (by omega)).mp h92
              obtain rfl : n = e := by omega
              refine r_aload_n (pc := 162) dX5_guarded_162 rfl ?_
              refine r_iload (pc := 163) dX5_guarded_163 rfl ?_
              refine iv_X5_76 (c_X5_nothingFound _ _ _ _) (pc := 165) dX5_guarded_165 rfl ⟨Nat.le_of_ble_eq_true rfl, Nat.le_of_ble_eq_true rfl⟩ (Nat.le_of_ble_eq_true rfl) hcs (kI ?_)
              exact r_iret (pc := 168) dX5_guarded_168 rfl (by subst hPP; exact (Or.inr ⟨k, r, m, 0, hk, hr, hma, hmb, rfl, rfl, rfl, hLC, Or.inr ⟨rfl, t, rfl, by omega, rfl, fun q hq => by by_cases z : q = 14; subst z; rw [mset_eq, mset_eq, hf 14 (by omega)]; rw [mset_ne _ _ _ z, mset_ne _ _ _ z]; exact hf q hq⟩⟩))
            · have h92 : e < n := Nat.not_le.mp (fun z => h92 ((nI_leI (by omega) (by omega)).mpr z))
              refine r_aload_n (pc := 95) dX5_guarded_95 rfl ?_
              refine gf_X5_25 (pc := 96) dX5_guarded_96 rfl ?_
              refine r_iload (pc := 99) dX5_guarded_99 rfl ?_
              refine iv_X5_178 (c_X2_isWatched_18 _ _ _ e ww (by omega) ((hf.ms hm).2.2.2.2.1.trans hw) hw64) (pc := 101) dX5_guarded_101 rfl ⟨Nat.le_of_ble_eq_true rfl, Nat.le_of_ble_eq_true rfl⟩ (Nat.le_of_ble_eq_true rfl) hcs (kI ?_)
              refine r_is (bI (hasB (S 4) (nI e))) (by rw [(hf.ms hm).2.2.2.2.1]) ?_
              refine r_ifeq_b (tgt := 110) (pc := 104) dX5_guarded_104 (by decide) (fun h104 => ?_) (fun h104 => ?_)
              · refine r_aload_n (pc := 110) dX5_guarded_110 rfl ?_
                refine iv_X5_213 (c_X5_foresee _ _ _ S n (hf.ms hm) hR) (pc := 111) dX5_guarded_111 rfl ⟨Nat.le_of_ble_eq_true rfl, Nat.le_of_ble_eq_true rfl⟩ (Nat.le_of_ble_eq_true rfl) hcs (kqV (fun N111 r111 => ?_))
                refine r_aload_n (pc := 114) dX5_guarded_114 rfl ?_
                refine gf_X5_29 (pc := 115) dX5_guarded_115 rfl ?_
                refine r_dup (pc := 118) dX5_guarded_118 rfl ?_
                refine gf_X5_181 (pc := 119) dX5_guarded_119 rfl ?_
                refine r_is (S 4) r111.2.2.2.2.2.1 ?_
                refine r_iconst (v := nI 1) (pc := 122) dX5_guarded_122 (by decide) ?_
                refine r_iload (pc := 123) dX5_guarded_123 rfl ?_
                refine r_ishl (pc := 125) dX5_guarded_125 ?_
                refine r_ior (pc := 126) dX5_guarded_126 ?_
                refine pf_X5_181 (pc := 127) dX5_guarded_127 rfl ?_
                have ff := (hf.trans r111.1).put 28 4 (S 4 ||| nI 1 <<< (nI e &&& 31)) (by omega) (by omega)
                refine r_aload_n (pc := 130) dX5_guarded_130 rfl ?_
                refine r_iload_n (pc := 131) dX5_guarded_131 rfl ?_
                refine r_aload_n (pc := 132) dX5_guarded_132 rfl ?_
                refine gf_X5_11 (pc := 133) dX5_guarded_133 rfl ?_
                refine r_iload_n (pc := 136) dX5_guarded_136 rfl ?_
                refine r_aaR (pc := 137) dX5_guarded_137 (by omega) ?_
                refine r_iload_n (pc := 138) dX5_guarded_138 rfl ?_
                refine r_iload (pc := 139) dX5_guarded_139 rfl ?_
                refine iv_X5_251 (c_X5_comesTrue _ _ _ k r t m hr (by omega) (fun i => M 3 (40 * r + t + i)) (fun j hj => by rw [ff _ (by omega), hit _ (by omega)]; show M 3 (40 * r + (t + j)) = M 3 (40 * r + t + j); rw [Nat.add_assoc]) _ n (r111.2.watch _) (hR.wor (by omega)) hn1 hk) (pc := 141) dX5_guarded_141 rfl ⟨Nat.le_of_ble_eq_true rfl, Nat.le_of_ble_eq_true rfl⟩ (Nat.le_of_ble_eq_true rfl) hcs (kqI (fun N141 r141 => ?_))
                refine r_ifeq_b (tgt := 156) (pc := 144) dX5_guarded_144 (by decide) (fun h144 => ?_) (fun h144 => ?_)
                · have e9 : guN S (fun ee => soB (fun i => M 3 (40 * r + t + i)) (fun i => highS (goP (upd S 4 (S 4 ||| nI 1 <<< (nI ee &&& 31))) n (i + 1)) k) m) (if soB (fun i => M 3 (40 * r + t + i)) (fun i => highS (goP S n (i + 1)) k) m = true then nI 64 else nI 0) (e + 1) = guN S (fun ee => soB (fun i => M 3 (40 * r + t + i)) (fun i => highS (goP (upd S 4 (S 4 ||| nI 1 <<< (nI ee &&& 31))) n (i + 1)) k) m) (if soB (fun i => M 3 (40 * r + t + i)) (fun i => highS (goP S n (i + 1)) k) m = true then nI 64 else nI 0) e := by rw [guN, if_neg h104, if_neg h144, or0]
                  first | refine r_inc [_, _, _, _, _, _, _, _] (pc := 156) dX5_guarded_156 rfl (nI_inc _) (by decide) rfl rfl ?_ | refine r_inc [_, _, _, _, _, _, _, _] (pc := 156) dX5_guarded_156 rfl rfl (by decide) rfl rfl ?_
                  refine r_goto (tgt := 83) (pc := 159) dX5_guarded_159 (by decide) ?_
                  first
                    | refine V.bk (ih (e + 1, N141) ⟨by dsimp only; omega, ff.trans r141⟩ (by dsimp only; omega)) rfl ?_
                      dsimp only
                      rw [e9]
                      repeat (first | exact wk_0 | refine wk_n ?_ | refine wk_s rfl ?_)
                    | refine V.bk (ih (e + 1, N) ⟨by dsimp only; omega, hf⟩ (by dsimp only; omega)) rfl ?_
                      dsimp only
                      rw [e9]
                      repeat (first | exact wk_0 | refine wk_n ?_ | refine wk_s rfl ?_)
                · have e9 : guN S (fun ee => soB (fun i => M 3 (40 * r + t + i)) (fun i => highS (goP (upd S 4 (S 4 ||| nI 1 <<< (nI ee &&& 31))) n (i + 1)) k) m) (if soB (fun i => M 3 (40 * r + t + i)) (fun i => highS (goP S n (i + 1)) k) m = true then nI 64 else nI 0) (e + 1) = guN S (fun ee => soB (fun i => M 3 (40 * r + t + i)) (fun i => highS (goP (upd S 4 (S 4 ||| nI 1 <<< (nI ee &&& 31))) n (i + 1)) k) m) (if soB (fun i => M 3 (40 * r + t + i)) (fun i => highS (goP S n (i + 1)) k) m = true then nI 64 else nI 0) e ||| nI 1 <<< (nI e &&& 31) := by rw [guN, if_neg h104, if_pos h144]
                  refine r_iload (pc := 147) dX5_guarded_147 rfl ?_
                  refine r_iconst (v := nI 1) (pc := 149) dX5_guarded_149 (by decide) ?_
                  refine r_iload (pc := 150) dX5_guarded_150 rfl ?_
                  refine r_ishl (pc := 152) dX5_guarded_152 ?_
                  refine r_ior (pc := 153) dX5_guarded_153 ?_
                  refine r_st [_, _, _, _, _, _, _, _] (pc := 154) dX5_guarded_154 (by decide) rfl rfl ?_
                  first | refine r_inc [_, _, _, _, _, _, _, _] (pc := 156) dX5_guarded_156 rfl (nI_inc _) (by decide) rfl rfl ?_ | refine r_inc [_, _, _, _, _, _, _, _] (pc := 156) dX5_guarded_156 rfl rfl (by decide) rfl rfl ?_
                  refine r_goto (tgt := 83) (pc := 159) dX5_guarded_159 (by decide) ?_
                  first
                    | refine V.bk (ih (e + 1, N141) ⟨by dsimp only; omega, ff.trans r141⟩ (by dsimp only; omega)) rfl ?_
                      dsimp only
                      rw [e9]
                      repeat (first | exact wk_0 | refine wk_n ?_ | refine wk_s rfl ?_)
                    | refine V.bk (ih (e + 1, N) ⟨by dsimp only; omega, hf⟩ (by dsimp only; omega)) rfl ?_
                      dsimp only
                      rw [e9]
                      repeat (first | exact wk_0 | refine wk_n ?_ | refine wk_s rfl ?_)
              · have e9 : guN S (fun ee => soB (fun i => M 3 (40 * r + t + i)) (fun i => highS (goP (upd S 4 (S 4 ||| nI 1 <<< (nI ee &&& 31))) n (i + 1)) k) m) (if soB (fun i => M 3 (40 * r + t + i)) (fun i => highS (goP S n (i + 1)) k) m = true then nI 64 else nI 0) (e + 1) = guN S (fun ee => soB (fun i => M 3 (40 * r + t + i)) (fun i => highS (goP (upd S 4 (S 4 ||| nI 1 <<< (nI ee &&& 31))) n (i + 1)) k) m) (if soB (fun i => M 3 (40 * r + t + i)) (fun i => highS (goP S n (i + 1)) k) m = true then nI 64 else nI 0) e := if_pos h104
                refine r_goto (tgt := 156) (pc := 107) dX5_guarded_107 (by decide) ?_
                first | refine r_inc [_, _, _, _, _, _, _, _] (pc := 156) dX5_guarded_156 rfl (nI_inc _) (by decide) rfl rfl ?_ | refine r_inc [_, _, _, _, _, _, _, _] (pc := 156) dX5_guarded_156 rfl rfl (by decide) rfl rfl ?_
                refine r_goto (tgt := 83) (pc := 159) dX5_guarded_159 (by decide) ?_
                first
                  | refine V.bk (ih (e + 1, N141) ⟨by dsimp only; omega, ff.trans r141⟩ (by dsimp only; omega)) rfl ?_
                    dsimp only
                    rw [e9]
                    repeat (first | exact wk_0 | refine wk_n ?_ | refine wk_s rfl ?_)
                  | refine V.bk (ih (e + 1, N) ⟨by dsimp only; omega, hf⟩ (by dsimp only; omega)) rfl ?_
                    dsimp only
                    rw [e9]
                    repeat (first | exact wk_0 | refine wk_n ?_ | refine wk_s rfl ?_)
        · have hc0 : c34 ≠ 0 := fun z => h41 (by rw [z]; rfl)
          refine r_aload_n (pc := 44) dX5_guarded_44 rfl ?_
          refine r_iload (pc := 45) dX5_guarded_45 rfl ?_
          refine iv_X5_68 (c_X5_found _ _ _ _) (pc := 47) dX5_guarded_47 rfl ⟨Nat.le_of_ble_eq_true rfl, Nat.le_of_ble_eq_true rfl⟩ (Nat.le_of_ble_eq_true rfl) hcs (kI ?_)
          exact r_iret (pc := 50) dX5_guarded_50 rfl (by subst hPP; exact (Or.inr ⟨k, r, m, c34, hk, hr, hma, hmb, rfl, rfl, rfl, hLC, Or.inl ⟨hc0, hc2, rfl, rfl⟩⟩))
      · have g23 : ¬ rgG 1 12 w := fun z => h23 (rg_mpr z (by omega))
        refine r_ldc (pc := 26) dX5_guarded_26 lk_X5_67 ?_
        exact r_iret (pc := 28) dX5_guarded_28 rfl (by subst hPP; exact (Or.inl ⟨by first | exact fun z => g5 z.1 | exact fun z => g12 z.2.1 | exact fun z => g23 z.2.2, rfl, rfl⟩))
set_option maxHeartbeats 4000000 in
set_option maxRecDepth 100000 in
theorem c_X5_drawn (l : Launch) (G : Gx) (M : Mem) (x y z : Int32) (S : Nat → Int32) (n : Nat) (hm : ms 18 n S M) (hR : Rg n S) : Con l G yX5_drawn cX5_drawn 8 (some .int) 3 107 [.ref (gA G 14), .int x, .int y, .int z] M (fun v M' => (n = 0 ∧ rI cState M v M') ∨ (0 < n ∧ ¬ (rgG 0 60 x ∧ rgG 1 999999 y ∧ rgG 0 1 z) ∧ rI cBad M v M') ∨ (0 < n ∧ ∃ m q p, m ≤ 60 ∧ 1 ≤ q ∧ q ≤ 999999 ∧ p ≤ 1 ∧ x = nI m ∧ y = nI q ∧ z = nI p ∧ qI (if p = 0 then atN (drS S n q m) n (nI 0) n else sumN (drS S n q m) 11 n) (fpc M) v M')) := by
  refine Con.ofV [some (.ref (gA G 14)), some (.int x), some (.int y), some (.int z), none, none, none, none] RX5 (by decide) rfl (Nat.le_of_ble_eq_true rfl) rfl ?_
  intro κ hl hG hk0 hn0
  subst hl hG
  have hcs : κ.k ≤ 0 ∧ κ.n ≤ 0 := ⟨Nat.le_of_eq hk0, Nat.le_of_eq hn0⟩
  generalize hPP : (fun v M' => (n = 0 ∧ rI cState M v M') ∨ (0 < n ∧ ¬ (rgG 0 60 x ∧ rgG 1 999999 y ∧ rgG 0 1 z) ∧ rI cBad M v M') ∨ (0 < n ∧ ∃ m q p, m ≤ 60 ∧ 1 ≤ q ∧ q ≤ 999999 ∧ p ≤ 1 ∧ x = nI m ∧ y = nI q ∧ z = nI p ∧ qI (if p = 0 then atN (drS S n q m) n (nI 0) n else sumN (drS S n q m) 11 n) (fpc M) v M')) = PP
  have hn := hm.1
  have hn6 := hR.1
  refine r_aload_n (pc := 0) dX5_drawn_0 rfl ?_
  refine iv_X5_149 (c_X5_isEmpty _ _ _ n (by first | assumption | exact hm.1) hn6) (pc := 1) dX5_drawn_1 rfl ⟨Nat.le_of_ble_eq_true rfl, Nat.le_of_ble_eq_true rfl⟩ (Nat.le_of_ble_eq_true rfl) hcs (kI ?_)
  refine r_ifeq_b (tgt := 10) (pc := 4) dX5_drawn_4 (by decide) (fun h4 => ?_) (fun h4 => ?_)
  · have hn1 : 0 < n := Nat.pos_of_ne_zero h4
    refine r_iload_n (pc := 10) dX5_drawn_10 rfl ?_
    refine r_iconst (v := nI 0) (pc := 11) dX5_drawn_11 (by decide) ?_
    refine r_bipush (v := nI 60) (pc := 12) dX5_drawn_12 (by decide) ?_
    refine iv_X5_63 (c_X5_within _ _ _ _ _ _) (pc := 14) dX5_drawn_14 ⟨Nat.le_of_ble_eq_true rfl, Nat.le_of_ble_eq_true rfl⟩ (Nat.le_of_ble_eq_true rfl) hcs (kI ?_)
    refine r_ifeq_b (tgt := 40) (pc := 17) dX5_drawn_17 (by decide) (fun h17 => ?_) (fun h17 => ?_)
    · have g17 : ¬ rgG 0 60 x := fun z => h17 (rg_mpr z (by omega))
      refine r_ldc (pc := 40) dX5_drawn_40 lk_X5_67 ?_
      exact r_iret (pc := 42) dX5_drawn_42 rfl (by subst hPP; exact (Or.inr (Or.inl ⟨hn1, by first | exact fun z => g17 z.1 | exact fun z => g28 z.2.1 | exact fun z => g37 z.2.2, rfl, rfl⟩)))
    · obtain ⟨m, hma, hmb, rfl⟩ := rg_mp (a := 0) (b := 60) h17 (by omega) (by omega)
      refine r_iload_n (pc := 20) dX5_drawn_20 rfl ?_
      refine r_iconst (v := nI 1) (pc := 21) dX5_drawn_21 (by decide) ?_
      refine r_ldcw (pc := 22) dX5_drawn_22 lk_X5_268 ?_
      refine iv_X5_63 (c_X5_within _ _ _ _ _ _) (pc := 25) dX5_drawn_25 ⟨Nat.le_of_ble_eq_true rfl, Nat.le_of_ble_eq_true rfl⟩ (Nat.le_of_ble_eq_true rfl) hcs (kI ?_)
      refine r_ifeq_b (tgt := 40) (pc := 28) dX5_drawn_28 (by decide) (fun h28 => ?_) (fun h28 => ?_)
      · have g28 : ¬ rgG 1 999999 y := fun z => h28 (rg_mpr (a := 1) (b := 999999) z (by decide))
        refine r_ldc (pc := 40) dX5_drawn_40 lk_X5_67 ?_
        exact r_iret (pc := 42) dX5_drawn_42 rfl (by subst hPP; exact (Or.inr (Or.inl ⟨hn1, by first | exact fun z => g17 z.1 | exact fun z => g28 z.2.1 | exact fun z => g37 z.2.2, rfl, rfl⟩)))
      · obtain ⟨q, hqa, hqb, rfl⟩ := rg_mp (a := 1) (b := 999999) h28 (by omega) (by omega)
        refine r_iload_n (pc := 31) dX5_drawn_31 rfl ?_
        refine r_iconst (v := nI 0) (pc := 32) dX5_drawn_32 (by decide) ?_
        refine r_iconst (v := nI 1) (pc := 33) dX5_drawn_33 (by decide) ?_
        refine iv_X5_63 (c_X5_within _ _ _ _ _ _) (pc := 34) dX5_drawn_34 ⟨Nat.le_of_ble_eq_true rfl, Nat.le_of_ble_eq_true rfl⟩ (Nat.le_of_ble_eq_true rfl) hcs (kI ?_)
        refine r_ifne_b (tgt := 43) (pc := 37) dX5_drawn_37 (by decide) (fun h37 => ?_) (fun h37 => ?_)
        · obtain ⟨p, hpa, hpb, rfl⟩ := rg_mp (a := 0) (b := 1) h37 (by omega) (by omega)
          refine r_aload_n (pc := 43) dX5_drawn_43 rfl ?_
          refine iv_X5_213 (c_X5_foresee _ _ _ S n hm hR) (pc := 44) dX5_drawn_44 rfl ⟨Nat.le_of_ble_eq_true rfl, Nat.le_of_ble_eq_true rfl⟩ (Nat.le_of_ble_eq_true rfl) hcs (kqV (fun N44 r44 => ?_))
          refine r_iload_n (pc := 47) dX5_drawn_47 rfl ?_
          refine r_i2l (pc := 48) dX5_drawn_48 ?_
          refine r_isL (lN q) (nI_l (by omega)) ?_
          refine r_lst [_, _, _, _, _, _, _, _] (pc := 49) dX5_drawn_49 (by decide) rfl rfl ?_
          refine r_iconst (v := nI 0) (pc := 51) dX5_drawn_51 (by decide) ?_
          refine r_st [_, _, _, _, _, _, _, _] (pc := 52) dX5_drawn_52 (by decide) rfl rfl ?_
          refine V.bk (loopV (fun (σ : Nat × Mem) => V κ cX5_drawn RX5 8 (some .int) (rmx 3 107) (QM κ PP) (σ.2) 54 [some (.ref (gA κ.G 14)), some (.int (nI m)), some (.int (nI q)), some (.int (nI p)), some (.long (lN (drV q (σ.1)))), none, some (.int (nI (σ.1))), none] []) (fun (σ : Nat × Mem) => (σ.1) ≤ m ∧ fpc M (σ.2) ∧ ms 28 n (drS S n q (σ.1)) (σ.2)) (fun (σ : Nat × Mem) => m - (σ.1)) ?_ (0, N44) ⟨Nat.zero_le _, r44.1, r44.2⟩) rfl (by (repeat (first | exact wk_0 | refine wk_n ?_ | refine wk_s rfl ?_)); done)
          rintro ⟨j, N⟩ hI0 ih
          dsimp only at hI0 ih
          obtain ⟨hj, hf, hmj⟩ := hI0
          show V κ cX5_drawn RX5 8 (some .int) (rmx 3 107) (QM κ PP) N 54 [some (.ref (gA κ.G 14)), some (.int (nI m)), some (.int (nI q)), some (.int (nI p)), some (.long (lN (drV q j))), none, some (.int (nI j)), none] []
          refine r_iload (pc := 54) dX5_drawn_54 rfl ?_
          refine r_iload_n (pc := 56) dX5_drawn_56 rfl ?_
          refine r_icmp_ge (tgt := 131) (pc := 57) dX5_drawn_57 (by decide) (fun h57 => ?_) (fun h57 => ?_)
          · have h57 : m ≤ j := (nI_leI (by omega) (by omega)).mp h57
            obtain rfl : m = j := by omega
            refine r_iload_n (pc := 131) dX5_drawn_131 rfl ?_
            refine r_if_ne (tgt := 146) (pc := 132) dX5_drawn_132 (by decide) (fun h132 => ?_) (fun h132 => ?_)
            · have h132 : p ≠ 0 := fun z => h132 (by rw [z]; rfl)
              refine r_aload_n (pc := 146) dX5_drawn_146 rfl ?_
              refine gf_X5_29 (pc := 147) dX5_drawn_147 rfl ?_
              refine iv_X5_226 (c_X2_allLegs_28 _ _ _ (drS S n q m) n hmj (drS_Rg hR hn1 m)) (pc := 150) dX5_drawn_150 rfl ⟨Nat.le_of_ble_eq_true rfl, Nat.le_of_ble_eq_true rfl⟩ (Nat.le_of_ble_eq_true rfl) hcs (kI ?_)
              exact r_iret (pc := 153) dX5_drawn_153 rfl (by subst hPP; exact (by first | exact Or.inr (Or.inr ⟨hn1, m, q, p, hmb, hqa, hqb, hpb, rfl, rfl, rfl, by rw [if_pos h132], hf.trans r140.fpp⟩) | exact Or.inr (Or.inr ⟨hn1, m, q, p, hmb, hqa, hqb, hpb, rfl, rfl, rfl, by rw [if_neg h132], hf⟩)))
            · have h132 : p = 0 := (nI_eq (by omega) (by omega)).mp (h132.trans nI_0.symm)
              refine r_aload_n (pc := 135) dX5_drawn_135 rfl ?_
              refine gf_X5_29 (pc := 136) dX5_drawn_136 rfl ?_
              refine r_iconst (v := nI 0) (pc := 139) dX5_drawn_139 (by decide) ?_
              refine iv_X5_162 (c_X2_atRank_28 _ _ _ 0 (drS S n q m) n hmj (drS_Rg hR hn1 m) hn1) (pc := 140) dX5_drawn_140 rfl ⟨Nat.le_of_ble_eq_true rfl, Nat.le_of_ble_eq_true rfl⟩ (Nat.le_of_ble_eq_true rfl) hcs (kqI (fun N140 r140 => ?_))
              refine r_goto (tgt := 153) (pc := 143) dX5_drawn_143 (by decide) ?_
              exact r_iret (pc := 153) dX5_drawn_153 rfl (by subst hPP; exact (by first | exact Or.inr (Or.inr ⟨hn1, m, q, p, hmb, hqa, hqb, hpb, rfl, rfl, rfl, by rw [if_pos h132], hf.trans r140.fpp⟩) | exact Or.inr (Or.inr ⟨hn1, m, q, p, hmb, hqa, hqb, hpb, rfl, rfl, rfl, by rw [if_neg h132], hf⟩)))
          · have h57 : j < m := Nat.not_le.mp (fun z => h57 ((nI_leI (by omega) (by omega)).mpr z))
            refine r_lload (pc := 60) dX5_drawn_60 rfl ?_
            refine r_ldc2 (pc := 62) dX5_drawn_62 lk_X5_269 ?_
            refine r_lmul (pc := 65) dX5_drawn_65 ?_
            refine r_ldc2 (pc := 66) dX5_drawn_66 lk_X5_271 ?_
            refine r_lrem (pc := 69) dX5_drawn_69 (by decide) ?_
            refine r_isL (lN (drV q (j + 1))) (lN_m _ (drV_lt q (by omega) j)) ?_
            have hv := drV_lt q (by omega) (j + 1)
            refine r_lst [_, _, _, _, _, _, _, _] (pc := 70) dX5_drawn_70 (by decide) rfl rfl ?_
            refine r_lload (pc := 72) dX5_drawn_72 rfl ?_
            refine r_aload_n (pc := 74) dX5_drawn_74 rfl ?_
            refine gf_X5_25 (pc := 75) dX5_drawn_75 rfl ?_
            refine gf_X5_140 (pc := 78) dX5_drawn_78 rfl ?_
            refine r_is (nI n) ((hf.ms hm).1) ?_
            refine r_i2l (pc := 81) dX5_drawn_81 ?_
            refine r_lrem (pc := 82) dX5_drawn_82 (by (exact lz_ne hn1 (by omega))) ?_
            refine r_isL (lN (drV q (j + 1) % n)) (lN_r hv hn1 (by omega)) ?_
            refine r_l2i (pc := 83) dX5_drawn_83 ?_
            refine r_is (nI (drV q (j + 1) % n)) (lN_i _) ?_
            have hc := Nat.mod_lt (drV q (j + 1)) hn1
            refine r_st [_, _, _, _, _, _, _, _] (pc := 84) dX5_drawn_84 (by decide) rfl rfl ?_
            refine r_aload_n (pc := 86) dX5_drawn_86 rfl ?_
            refine gf_X5_29 (pc := 87) dX5_drawn_87 rfl ?_
            refine r_iconst (v := nI 1) (pc := 90) dX5_drawn_90 (by decide) ?_
            refine r_iload (pc := 91) dX5_drawn_91 rfl ?_
            refine r_ishl (pc := 93) dX5_drawn_93 ?_
            refine pf_X5_181 (pc := 94) dX5_drawn_94 rfl ?_
            refine r_lload (pc := 97) dX5_drawn_97 rfl ?_
            refine r_ldc2 (pc := 99) dX5_drawn_99 lk_X5_273 ?_
            refine r_lrem (pc := 102) dX5_drawn_102 (by decide) ?_
            refine r_isL (lN (drV q (j + 1) % 5)) (lN_r hv (by omega) (by omega)) ?_
            refine r_lconst (v := (nI 0).toInt64) (pc := 103) dX5_drawn_103 (by decide) ?_
            refine r_lcmp (pc := 104) dX5_drawn_104 ?_
            refine r_if_ne (tgt := 117) (pc := 105) dX5_drawn_105 (by decide) (fun h105 => ?_) (fun h105 => ?_)
            · have hg : (decide (drV q (j + 1) % 5 = 0)) = false := decide_eq_false (fun z => h105 ((lg_cmp_eq _ _).mpr (by rw [z]; rfl)))
              have hmz : ms 28 n (drG (drS S n q j) (drV q (j + 1) % n) (decide (drV q (j + 1) % 5 = 0))) (mset N 28 4 (nI 1 <<< (nI (drV q (j + 1) % n) &&& 31))) := by rw [hg]; exact hmj.watch _
              have ffz : fpc M (mset N 28 4 (nI 1 <<< (nI (drV q (j + 1) % n) &&& 31))) := hf.put 28 4 _ (by omega) (by omega)
              first
                | have hmy := And.intro hmz ffz
                | have hmy : ms 28 n (drG (drS S n q j) (drV q (j + 1) % n) (decide (drV q (j + 1) % 5 = 0))) (mset (mset N 28 4 (nI 1 <<< (nI (drV q (j + 1) % n) &&& 31))) 30 (drV q (j + 1) % n) (glueV (upd (drS S n q j) 4 (nI 1 <<< (nI (drV q (j + 1) % n) &&& 31))) (drV q (j + 1) % n))) ∧ fpc M (mset (mset N 28 4 (nI 1 <<< (nI (drV q (j + 1) % n) &&& 31))) 30 (drV q (j + 1) % n) (glueV (upd (drS S n q j) 4 (nI 1 <<< (nI (drV q (j + 1) % n) &&& 31))) (drV q (j + 1) % n))) := ⟨by rw [hg]; exact (hmj.watch _).put (j := 2) (p := 11) (by omega) (by omega) hn6 _, (hf.put 28 4 _ (by omega) (by omega)).put 30 _ _ (by omega) (by omega)⟩
              refine r_aload_n (pc := 117) dX5_drawn_117 rfl ?_
              refine gf_X5_29 (pc := 118) dX5_drawn_118 rfl ?_
              refine iv_X5_159 (c_X2_passNight_28 _ _ _ (drG (drS S n q j) (drV q (j + 1) % n) (decide (drV q (j + 1) % 5 = 0))) n hmy.1 (drG_Rg (drS_Rg hR hn1 j) hc _) hn1) (pc := 121) dX5_drawn_121 rfl ⟨Nat.le_of_ble_eq_true rfl, Nat.le_of_ble_eq_true rfl⟩ (Nat.le_of_ble_eq_true rfl) hcs (kqI (fun N121 r121 => ?_))
              refine r_pop (pc := 124) dX5_drawn_124 rfl ?_
              first | refine r_inc [_, _, _, _, _, _, _, _] (pc := 125) dX5_drawn_125 rfl (nI_inc _) (by decide) rfl rfl ?_ | refine r_inc [_, _, _, _, _, _, _, _] (pc := 125) dX5_drawn_125 rfl rfl (by decide) rfl rfl ?_
              refine r_goto (tgt := 54) (pc := 128) dX5_drawn_128 (by decide) ?_
              exact V.bk (ih (j + 1, N121) ⟨by dsimp only; omega, hmy.2.trans r121.1.fpp, r121.2⟩ (by dsimp only; omega)) rfl (by (repeat (first | exact wk_0 | refine wk_n ?_ | refine wk_s rfl ?_)); done)
            · have hg : (decide (drV q (j + 1) % 5 = 0)) = true := decide_eq_true ((fb_lN_inj (by omega) (by omega)).mp ((lg_cmp_eq _ _).mp h105))
              refine r_aload_n (pc := 108) dX5_drawn_108 rfl ?_
              refine gf_X5_29 (pc := 109) dX5_drawn_109 rfl ?_
              refine r_iload (pc := 112) dX5_drawn_112 rfl ?_
              refine iv_X5_174 (c_X2_glueLeg_28 _ _ _ (drV q (j + 1) % n) (upd (drS S n q j) 4 (nI 1 <<< (nI (drV q (j + 1) % n) &&& 31))) n (hmj.watch _) (by have z := drG_Rg (drS_Rg (q := q) hR hn1 j) hc false; rw [drG, if_neg (by decide)] at z; exact z) hc) (pc := 114) dX5_drawn_114 rfl ⟨Nat.le_of_ble_eq_true rfl, Nat.le_of_ble_eq_true rfl⟩ (Nat.le_of_ble_eq_true rfl) hcs (kV ?_)
              first
                | have hmy := And.intro hmz ffz
                | have hmy : ms 28 n (drG (drS S n q j) (drV q (j + 1) % n) (decide (drV q (j + 1) % 5 = 0))) (mset (mset N 28 4 (nI 1 <<< (nI (drV q (j + 1) % n) &&& 31))) 30 (drV q (j + 1) % n) (glueV (upd (drS S n q j) 4 (nI 1 <<< (nI (drV q (j + 1) % n) &&& 31))) (drV q (j + 1) % n))) ∧ fpc M (mset (mset N 28 4 (nI 1 <<< (nI (drV q (j + 1) % n) &&& 31))) 30 (drV q (j + 1) % n) (glueV (upd (drS S n q j) 4 (nI 1 <<< (nI (drV q (j + 1) % n) &&& 31))) (drV q (j + 1) % n))) := ⟨by rw [hg]; exact (hmj.watch _).put (j := 2) (p := 11) (by omega) (by omega) hn6 _, (hf.put 28 4 _ (by omega) (by omega)).put 30 _ _ (by omega) (by omega)⟩
              refine r_aload_n (pc := 117) dX5_drawn_117 rfl ?_
              refine gf_X5_29 (pc := 118) dX5_drawn_118 rfl ?_
              refine iv_X5_159 (c_X2_passNight_28 _ _ _ (drG (drS S n q j) (drV q (j + 1) % n) (decide (drV q (j + 1) % 5 = 0))) n hmy.1 (drG_Rg (drS_Rg hR hn1 j) hc _) hn1) (pc := 121) dX5_drawn_121 rfl ⟨Nat.le_of_ble_eq_true rfl, Nat.le_of_ble_eq_true rfl⟩ (Nat.le_of_ble_eq_true rfl) hcs (kqI (fun N121 r121 => ?_))
              refine r_pop (pc := 124) dX5_drawn_124 rfl ?_
              first | refine r_inc [_, _, _, _, _, _, _, _] (pc := 125) dX5_drawn_125 rfl (nI_inc _) (by decide) rfl rfl ?_ | refine r_inc [_, _, _, _, _, _, _, _] (pc := 125) dX5_drawn_125 rfl rfl (by decide) rfl rfl ?_
              refine r_goto (tgt := 54) (pc := 128) dX5_drawn_128 (by decide) ?_
              exact V.bk (ih (j + 1, N121) ⟨by dsimp only; omega, hmy.2.trans r121.1.fpp, r121.2⟩ (by dsimp only; omega)) rfl (by (repeat (first | exact wk_0 | refine wk_n ?_ | refine wk_s rfl ?_)); done)
        · have g37 : ¬ rgG 0 1 z := fun z => h37 (rg_mpr z (by omega))
          refine r_ldc (pc := 40) dX5_drawn_40 lk_X5_67 ?_
          exact r_iret (pc := 42) dX5_drawn_42 rfl (by subst hPP; exact (Or.inr (Or.inl ⟨hn1, by first | exact fun z => g17 z.1 | exact fun z => g28 z.2.1 | exact fun z => g37 z.2.2, rfl, rfl⟩)))
  · have g4 : n = 0 := h4
    refine r_ldc (pc := 7) dX5_drawn_7 lk_X5_148 ?_
    exact r_iret (pc := 9) dX5_drawn_9 rfl (by subst hPP; exact (Or.inl ⟨g4, rfl, rfl⟩))
