/-- the acts: a of them, L i the i-th from the oldest -/
def hsR (N : Mem) (L : Nat → Nat → Int32) (a : Nat) : Prop := ∃ old, old < 24 ∧ a ≤ 24 ∧ N 40 1 = nI old ∧ N 40 2 = nI a ∧ ∀ i, i < a → ∃ m, 0 < m ∧ Rg m (L i) ∧ cs m (L i) (N (61 + (old + i) % 24))
def psh (L : Nat → Nat → Int32) (a : Nat) (S : Nat → Int32) : Nat → Nat → Int32 := fun i => if a < 24 then (if i = a then S else L i) else (if i = 23 then S else L (i + 1))
def fak (M N : Mem) : Prop := ∀ q, q < 18 ∨ (40 < q ∧ q < 61) ∨ 84 < q → N q = M q
theorem fak.refl (M : Mem) : fak M M := fun _ _ => rfl
theorem fak.trans {M N K : Mem} (h : fak M N) (g : fak N K) : fak M K := fun q a => (g q a).trans (h q a)
theorem fro.fak {M N : Mem} (h : fro 18 M N) : fak M N := fun q a => h q (by omega)
theorem hsR.fr {M N : Mem} {L : Nat → Nat → Int32} {a : Nat} (h : hsR M L a) (hq : ∀ q, q = 40 ∨ (61 ≤ q ∧ q < 85) → N q = M q) : hsR N L a := by
  obtain ⟨old, h1, h2, h3, h4, h5⟩ := h
  refine ⟨old, h1, h2, by rw [hq 40 (by omega)]; exact h3, by rw [hq 40 (by omega)]; exact h4, fun i hi => ?_⟩
  rw [hq _ (by omega)]
  exact h5 i hi
theorem keepM_fr (M : Mem) (old a : Nat) {q : Nat} (h : q < 40 ∨ (40 < q ∧ q < 61) ∨ 84 < q) : keepM M old a q = M q := by
  unfold keepM
  split
  · rw [mset_ne _ _ _ (by omega), setA_ne _ _ (by omega)]
  · rw [mset_ne _ _ _ (by omega), setA_ne _ _ (by omega)]
theorem keep_hR {M : Mem} {L : Nat → Nat → Int32} {a n old : Nat} {S : Nat → Int32} (h1 : old < 24) (h2 : a ≤ 24) (h3 : M 40 1 = nI old) (h4 : M 40 2 = nI a) (h5 : ∀ i, i < a → ∃ m, 0 < m ∧ Rg m (L i) ∧ cs m (L i) (M (61 + (old + i) % 24))) (hm : ms 18 n S M) (hRg : Rg n S) (hn1 : 0 < n) : hsR (keepM M old a) (psh L a S) (min 24 (a + 1)) := by
  have hcs : cs n S (WA M 18 (M (61 + (old + a) % 24))) := cel_cs (WA_cel M 18 _) hm hRg.1
  by_cases ha : a < 24
  · have e : keepM M old a = mset (setA M (61 + (old + a) % 24) (WA M 18 (M (61 + (old + a) % 24)))) 40 2 (nI (a + 1)) := if_pos ha
    rw [e, Nat.min_eq_right (by omega)]
    refine ⟨old, h1, by omega, by rw [mset_eq, pk_un (by decide), setA_ne _ _ (by omega)]; exact h3, by rw [mset_eq, pk_us], fun i hi => ?_⟩
    rw [mset_ne _ _ _ (by omega)]
    unfold psh
    rw [if_pos ha]
    by_cases z : i = a
    · subst z
      rw [if_pos rfl, setA_eq]
      exact ⟨n, hn1, hRg, hcs⟩
    · rw [if_neg z, setA_ne _ _ (by omega)]
      exact h5 i (by omega)
  · have e : keepM M old a = mset (setA M (61 + (old + a) % 24) (WA M 18 (M (61 + (old + a) % 24)))) 40 1 (nI ((old + 1) % 24)) := if_neg ha
    rw [e, Nat.min_eq_left (by omega)]
    refine ⟨(old + 1) % 24, Nat.mod_lt _ (by omega), by omega, by rw [mset_eq, pk_us], by rw [mset_eq, pk_un (by decide), setA_ne _ _ (by omega), h4, show a = 24 by omega], fun i hi => ?_⟩
    rw [mset_ne _ _ _ (by omega)]
    unfold psh
    rw [if_neg ha]
    by_cases z : i = 23
    · subst z
      rw [if_pos rfl, show ((old + 1) % 24 + 23) % 24 = (old + a) % 24 by omega, setA_eq]
      exact ⟨n, hn1, hRg, hcs⟩
    · rw [if_neg z, show ((old + 1) % 24 + i) % 24 = (old + (i + 1)) % 24 by omega, setA_ne _ _ (by omega)]
      exact h5 (i + 1) (by omega)
theorem d_X1_keep {l : Launch} {G : Gx} (M : Mem) (L : Nat → Nat → Int32) (a n : Nat) (S : Nat → Int32) (h : hsR M L a) (hm : ms 18 n S M) (hRg : Rg n S) (hn1 : 0 < n) : Con l G yX1_keep cX1_keep 2 none 2 81 [.ref (gA G 40), .ref (gA G 18)] M (qV (fun N => fak M N ∧ (∀ q, q < 40 → N q = M q) ∧ hsR N (psh L a S) (min 24 (a + 1)))) := by
  obtain ⟨old, h1, h2, h3, h4, h5⟩ := h
  exact (c_X1_keep l G M old a h1 h2 h3 h4).imp (fun _ _ z => ⟨z.1, by rw [z.2]; exact ⟨fun q hq => keepM_fr M old a (by omega), fun q hq => keepM_fr M old a (by omega), keep_hR h1 h2 h3 h4 h5 hm hRg hn1⟩⟩)
/-- an act done: noted, and now S -/
def AK (M : Mem) (n : Nat) (S : Nat → Int32) (L : Nat → Nat → Int32) (a : Nat) (N : Mem) : Prop := fak M N ∧ ms 18 n S N ∧ hsR N L a
theorem ms.lo {n : Nat} {S : Nat → Int32} {M N : Mem} (h : ms 18 n S M) (hq : ∀ q, q < 40 → N q = M q) : ms 18 n S N := h.fr (fun q _ _ => hq q (by omega))
theorem AK.put {M N : Mem} {n a : Nat} {S : Nat → Int32} {L : Nat → Nat → Int32} (h1 : fak M N) (h2 : ms 18 n S N) (h3 : hsR N L a) {j p k : Nat} (hj : (j = 1 ∧ p = 5) ∨ (j = 2 ∧ p = 11) ∨ (j = 3 ∧ p = 29) ∨ (j = 4 ∧ p = 17) ∨ (j = 5 ∧ p = 23) ∨ (j = 6 ∧ p = 35)) (hk : k < 6) (hn : n ≤ 6) (v : Int32) : AK M n (upd S (p + k) v) L a (mset N (18 + j) k v) :=
  ⟨fun q hq => by rw [mset_ne _ _ _ (by omega)]; exact h1 q hq, h2.put hj hk hn v, h3.fr (fun q hq => mset_ne _ _ _ (by omega))⟩
def swp (k q c : Nat) : Nat := if c = q then k else if c = k then q else c
theorem exchA_p (g : Nat → Int32) (p k q c : Nat) : exchA g (p + k) (p + q) (p + c) = g (p + swp k q c) := by
  unfold exchA swp
  by_cases h1 : c = q
  · subst h1; rw [pk_us, if_pos rfl]
  · rw [pk_un (by omega), if_neg h1]
    by_cases h2 : c = k
    · subst h2; rw [pk_us, if_pos rfl]
    · rw [pk_un (by omega), if_neg h2]
theorem exchA_0 (g : Nat → Int32) (k q c : Nat) : exchA g k q c = g (swp k q c) := by
  have := exchA_p g 0 k q c
  rw [Nat.zero_add, Nat.zero_add, Nat.zero_add, Nat.zero_add] at this
  exact this
theorem exchA_o (g : Nat → Int32) {a b i : Nat} (h1 : i ≠ a) (h2 : i ≠ b) : exchA g a b i = g i := exchA_lo g h1 h2
theorem swp_lt {k q c n : Nat} (hk : k < n) (hq : q < n) (hc : c < n) : swp k q c < n := by
  unfold swp
  split
  · omega
  · split <;> omega
theorem chgS_at (S : Nat → Int32) {k q c n : Nat} (hk : k < n) (hq : q < n) (hc : c < n) (hn : n ≤ 6) : chgS S k q (5 + c) = S (5 + c) ∧ chgS S k q (11 + c) = S (11 + c) ∧ chgS S k q (29 + c) = S (29 + c) ∧ chgS S k q (17 + c) = S (17 + swp k q c) ∧ chgS S k q (23 + c) = S (23 + swp k q c) ∧ chgS S k q (35 + c) = S (35 + swp k q c) := by
  have hs := swp_lt hk hq hc
  unfold chgS
  refine ⟨?_, ?_, ?_, ?_, ?_, ?_⟩
  · rw [exchA_o _ (by omega) (by omega), exchA_o _ (by omega) (by omega), exchA_o _ (by omega) (by omega)]
  · rw [exchA_o _ (by omega) (by omega), exchA_o _ (by omega) (by omega), exchA_o _ (by omega) (by omega)]
  · rw [exchA_o _ (by omega) (by omega), exchA_o _ (by omega) (by omega), exchA_o _ (by omega) (by omega)]
  · rw [exchA_o _ (by omega) (by omega), exchA_o _ (by omega) (by omega), exchA_p]
  · rw [exchA_o _ (by omega) (by omega), exchA_p, exchA_o _ (by omega) (by omega)]
  · rw [exchA_p, exchA_o _ (by omega) (by omega), exchA_o _ (by omega) (by omega)]
theorem chgS_lo (S : Nat → Int32) {k q i n : Nat} (hi : i < 5) : chgS S k q i = S i := by
  unfold chgS
  rw [exchA_o _ (by omega) (by omega), exchA_o _ (by omega) (by omega), exchA_o _ (by omega) (by omega)]
theorem Rg.chg {n k q : Nat} {S : Nat → Int32} (h : Rg n S) (hk : k < n) (hq : q < n) : Rg n (chgS S k q) := by
  obtain ⟨h1, h2, h3, h4, h5⟩ := h
  refine ⟨h1, by rw [chgS_lo (n := n) _ (by omega)]; exact h2, by rw [chgS_lo (n := n) _ (by omega)]; exact h3, by rw [chgS_lo (n := n) _ (by omega)]; exact h4, fun c hc => ?_⟩
  obtain ⟨e1, e2, e3, e4, e5, -⟩ := chgS_at S hk hq hc h1
  obtain ⟨a1, a2, -, -, a5⟩ := h5 c hc
  obtain ⟨-, -, b3, b4, -⟩ := h5 (swp k q c) (swp_lt hk hq hc)
  unfold Rc
  rw [e1, e2, e3, e4, e5]
  exact ⟨a1, a2, b3, b4, a5⟩
theorem ms.chg {n k q : Nat} {S : Nat → Int32} {M : Mem} (h : ms 18 n S M) (hk : k < n) (hq : q < n) (hn : n ≤ 6) : ms 18 n (chgS S k q) (setA (setA (setA M 22 (exchA (M 22) k q)) 23 (exchA (M 23) k q)) 24 (exchA (M 24) k q)) := by
  obtain ⟨h1, h2, h3, h4, h5, h6⟩ := h
  refine ⟨h1, ?_, ?_, ?_, ?_, fun c hc => ?_⟩
  · rw [chgS_lo (n := n) _ (by omega)]; exact h2
  · rw [chgS_lo (n := n) _ (by omega)]; exact h3
  · rw [chgS_lo (n := n) _ (by omega)]; exact h4
  · rw [chgS_lo (n := n) _ (by omega)]; exact h5
  · obtain ⟨e1, e2, e3, e4, e5, e6⟩ := chgS_at S hk hq hc hn
    obtain ⟨a1, a2, a3, -, -, -⟩ := h6 c hc
    obtain ⟨-, -, -, b4, b5, b6⟩ := h6 (swp k q c) (swp_lt hk hq hc)
    rw [e1, e2, e3, e4, e5, e6]
    refine ⟨a1, a2, a3, ?_, ?_, ?_⟩
    · show exchA (M 22) k q c = _
      rw [exchA_0]; exact b4
    · show exchA (M 23) k q c = _
      rw [exchA_0]; exact b5
    · show exchA (M 24) k q c = _
      rw [exchA_0]; exact b6
def psN (L : Nat → Nat → Int32) (a : Nat) (S : Nat → Int32) (n : Nat) : Nat → Nat → Nat → Int32
  | 0 => L
  | j + 1 => psh (psN L a S n j) (min 24 (a + j)) (goP S n j)
set_option maxHeartbeats 4000000 in
set_option maxRecDepth 100000 in
theorem c_X5_cushions (l : Launch) (G : Gx) (M : Mem) (x y : Int32) (S : Nat → Int32) (n : Nat) (hm : ms 18 n S M) (hR : Rg n S) (L : Nat → Nat → Int32) (a : Nat) (hA : hsR M L a) : Con l G yX5_cushions cX5_cushions 4 (some .int) 3 102 [.ref (gA G 14), .int x, .int y] M (fun v M' => (¬ (chG n x ∧ rgG 0 20 y) ∧ rI cBad M v M') ∨ (∃ k q, k < n ∧ q ≤ 20 ∧ x = nI k ∧ y = nI q ∧ qI (S (29 + k)) (AK M n (upd S (29 + k) (nI q)) (psh L a S) (min 24 (a + 1))) v M')) := by
  refine Con.ofV [some (.ref (gA G 14)), some (.int x), some (.int y), none] RX5 (by decide) rfl (Nat.le_of_ble_eq_true rfl) rfl ?_
  intro κ hl hG hk0 hn0
  subst hl hG
  have hcs : κ.k ≤ 0 ∧ κ.n ≤ 0 := ⟨Nat.le_of_eq hk0, Nat.le_of_eq hn0⟩
  generalize hPP : (fun v M' => (¬ (chG n x ∧ rgG 0 20 y) ∧ rI cBad M v M') ∨ (∃ k q, k < n ∧ q ≤ 20 ∧ x = nI k ∧ y = nI q ∧ qI (S (29 + k)) (AK M n (upd S (29 + k) (nI q)) (psh L a S) (min 24 (a + 1))) v M')) = PP
  have hn := hm.1
  have hn6 := hR.1
  refine r_aload_n (pc := 0) dX5_cushions_0 rfl ?_
  refine r_iload_n (pc := 1) dX5_cushions_1 rfl ?_
  refine iv_X5_165 (c_X5_isChair _ _ _ _) (pc := 2) dX5_cushions_2 rfl ⟨Nat.le_of_ble_eq_true rfl, Nat.le_of_ble_eq_true rfl⟩ (Nat.le_of_ble_eq_true rfl) hcs (kI ?_)
  refine r_ifeq_b (tgt := 18) (pc := 5) dX5_cushions_5 (by decide) (fun h5 => ?_) (fun h5 => ?_)
  · have g5 : ¬ chG n x := fun z => h5 (ch_mpr hn hn6 z)
    refine r_ldc (pc := 18) dX5_cushions_18 lk_X5_67 ?_
    exact r_iret (pc := 20) dX5_cushions_20 rfl (by subst hPP; exact (Or.inl ⟨by first | exact fun z => g5 z.1 | exact fun z => g15 z.2, rfl, rfl⟩))
  · obtain ⟨k, hk, rfl⟩ := ch_mp hn hn6 h5
    refine r_iload_n (pc := 8) dX5_cushions_8 rfl ?_
    refine r_iconst (v := nI 0) (pc := 9) dX5_cushions_9 (by decide) ?_
    refine r_bipush (v := nI 20) (pc := 10) dX5_cushions_10 (by decide) ?_
    refine iv_X5_63 (c_X5_within _ _ _ _ _ _) (pc := 12) dX5_cushions_12 ⟨Nat.le_of_ble_eq_true rfl, Nat.le_of_ble_eq_true rfl⟩ (Nat.le_of_ble_eq_true rfl) hcs (kI ?_)
    refine r_ifne_b (tgt := 21) (pc := 15) dX5_cushions_15 (by decide) (fun h15 => ?_) (fun h15 => ?_)
    · obtain ⟨q, hqa, hqb, rfl⟩ := rg_mp (a := 0) (b := 20) h15 (by omega) (by omega)
      refine r_aload_n (pc := 21) dX5_cushions_21 rfl ?_
      refine gf_X5_42 (pc := 22) dX5_cushions_22 rfl ?_
      refine r_aload_n (pc := 25) dX5_cushions_25 rfl ?_
      refine gf_X5_25 (pc := 26) dX5_cushions_26 rfl ?_
      refine iv_X5_155 (d_X1_keep M L a n S hA hm hR (by omega)) (pc := 29) dX5_cushions_29 rfl ⟨Nat.le_of_ble_eq_true rfl, Nat.le_of_ble_eq_true rfl⟩ (Nat.le_of_ble_eq_true rfl) hcs (kqV (fun N29 r29 => ?_))
      have hm2 := hm.lo r29.2.1
      refine r_aload_n (pc := 32) dX5_cushions_32 rfl ?_
      refine gf_X5_25 (pc := 33) dX5_cushions_33 rfl ?_
      refine gf_X5_168 (pc := 36) dX5_cushions_36 rfl ?_
      refine r_iload_n (pc := 39) dX5_cushions_39 rfl ?_
      refine r_iald (pc := 40) dX5_cushions_40 rfl (show _ < 6 by omega) ?_
      refine r_is (S (29 + k)) (hm2.2.2.2.2.2 k hk).2.2.1 ?_
      refine r_st_n [_, _, _, _] (pc := 41) dX5_cushions_41 (by decide) rfl rfl ?_
      refine r_aload_n (pc := 42) dX5_cushions_42 rfl ?_
      refine gf_X5_25 (pc := 43) dX5_cushions_43 rfl ?_
      refine gf_X5_168 (pc := 46) dX5_cushions_46 rfl ?_
      refine r_iload_n (pc := 49) dX5_cushions_49 rfl ?_
      refine r_iload_n (pc := 50) dX5_cushions_50 rfl ?_
      refine r_iast (pc := 51) dX5_cushions_51 rfl (show _ < 6 by omega) ?_
      refine r_iload_n (pc := 52) dX5_cushions_52 rfl ?_
      exact r_iret (pc := 53) dX5_cushions_53 rfl (by subst hPP; exact (Or.inr ⟨k, q, hk, hqb, rfl, rfl, rfl, AK.put (j := 3) (p := 29) r29.1 hm2 r29.2.2 (by omega) (by omega) hn6 _⟩))
    · have g15 : ¬ rgG 0 20 y := fun z => h15 (rg_mpr z (by omega))
      refine r_ldc (pc := 18) dX5_cushions_18 lk_X5_67 ?_
      exact r_iret (pc := 20) dX5_cushions_20 rfl (by subst hPP; exact (Or.inl ⟨by first | exact fun z => g5 z.1 | exact fun z => g15 z.2, rfl, rfl⟩))
set_option maxHeartbeats 4000000 in
set_option maxRecDepth 100000 in
theorem c_X5_saw (l : Launch) (G : Gx) (M : Mem) (x y : Int32) (S : Nat → Int32) (n : Nat) (hm : ms 18 n S M) (hR : Rg n S) (L : Nat → Nat → Int32) (a : Nat) (hA : hsR M L a) : Con l G yX5_saw cX5_saw 4 (some .int) 3 102 [.ref (gA G 14), .int x, .int y] M (fun v M' => (¬ (chG n x ∧ rgG 0 9 y) ∧ rI cBad M v M') ∨ (∃ k q, k < n ∧ q ≤ 9 ∧ x = nI k ∧ y = nI q ∧ qI (S (17 + k)) (AK M n (upd S (17 + k) (nI q)) (psh L a S) (min 24 (a + 1))) v M')) := by
  refine Con.ofV [some (.ref (gA G 14)), some (.int x), some (.int y), none] RX5 (by decide) rfl (Nat.le_of_ble_eq_true rfl) rfl ?_
  intro κ hl hG hk0 hn0
  subst hl hG
  have hcs : κ.k ≤ 0 ∧ κ.n ≤ 0 := ⟨Nat.le_of_eq hk0, Nat.le_of_eq hn0⟩
  generalize hPP : (fun v M' => (¬ (chG n x ∧ rgG 0 9 y) ∧ rI cBad M v M') ∨ (∃ k q, k < n ∧ q ≤ 9 ∧ x = nI k ∧ y = nI q ∧ qI (S (17 + k)) (AK M n (upd S (17 + k) (nI q)) (psh L a S) (min 24 (a + 1))) v M')) = PP
  have hn := hm.1
  have hn6 := hR.1
  refine r_aload_n (pc := 0) dX5_saw_0 rfl ?_
  refine r_iload_n (pc := 1) dX5_saw_1 rfl ?_
  refine iv_X5_165 (c_X5_isChair _ _ _ _) (pc := 2) dX5_saw_2 rfl ⟨Nat.le_of_ble_eq_true rfl, Nat.le_of_ble_eq_true rfl⟩ (Nat.le_of_ble_eq_true rfl) hcs (kI ?_)
  refine r_ifeq_b (tgt := 18) (pc := 5) dX5_saw_5 (by decide) (fun h5 => ?_) (fun h5 => ?_)
  · have g5 : ¬ chG n x := fun z => h5 (ch_mpr hn hn6 z)
    refine r_ldc (pc := 18) dX5_saw_18 lk_X5_67 ?_
    exact r_iret (pc := 20) dX5_saw_20 rfl (by subst hPP; exact (Or.inl ⟨by first | exact fun z => g5 z.1 | exact fun z => g15 z.2, rfl, rfl⟩))
  · obtain ⟨k, hk, rfl⟩ := ch_mp hn hn6 h5
    refine r_iload_n (pc := 8) dX5_saw_8 rfl ?_
    refine r_iconst (v := nI 0) (pc := 9) dX5_saw_9 (by decide) ?_
    refine r_bipush (v := nI 9) (pc := 10) dX5_saw_10 (by decide) ?_
    refine iv_X5_63 (c_X5_within _ _ _ _ _ _) (pc := 12) dX5_saw_12 ⟨Nat.le_of_ble_eq_true rfl, Nat.le_of_ble_eq_true rfl⟩ (Nat.le_of_ble_eq_true rfl) hcs (kI ?_)
    refine r_ifne_b (tgt := 21) (pc := 15) dX5_saw_15 (by decide) (fun h15 => ?_) (fun h15 => ?_)
    · obtain ⟨q, hqa, hqb, rfl⟩ := rg_mp (a := 0) (b := 9) h15 (by omega) (by omega)
      refine r_aload_n (pc := 21) dX5_saw_21 rfl ?_
      refine gf_X5_42 (pc := 22) dX5_saw_22 rfl ?_
      refine r_aload_n (pc := 25) dX5_saw_25 rfl ?_
      refine gf_X5_25 (pc := 26) dX5_saw_26 rfl ?_
      refine iv_X5_155 (d_X1_keep M L a n S hA hm hR (by omega)) (pc := 29) dX5_saw_29 rfl ⟨Nat.le_of_ble_eq_true rfl, Nat.le_of_ble_eq_true rfl⟩ (Nat.le_of_ble_eq_true rfl) hcs (kqV (fun N29 r29 => ?_))
      have hm2 := hm.lo r29.2.1
      refine r_aload_n (pc := 32) dX5_saw_32 rfl ?_
      refine gf_X5_25 (pc := 33) dX5_saw_33 rfl ?_
      refine gf_X5_198 (pc := 36) dX5_saw_36 rfl ?_
      refine r_iload_n (pc := 39) dX5_saw_39 rfl ?_
      refine r_iald (pc := 40) dX5_saw_40 rfl (show _ < 6 by omega) ?_
      refine r_is (S (17 + k)) (hm2.2.2.2.2.2 k hk).2.2.2.1 ?_
      refine r_st_n [_, _, _, _] (pc := 41) dX5_saw_41 (by decide) rfl rfl ?_
      refine r_aload_n (pc := 42) dX5_saw_42 rfl ?_
      refine gf_X5_25 (pc := 43) dX5_saw_43 rfl ?_
      refine gf_X5_198 (pc := 46) dX5_saw_46 rfl ?_
      refine r_iload_n (pc := 49) dX5_saw_49 rfl ?_
      refine r_iload_n (pc := 50) dX5_saw_50 rfl ?_
      refine r_iast (pc := 51) dX5_saw_51 rfl (show _ < 6 by omega) ?_
      refine r_iload_n (pc := 52) dX5_saw_52 rfl ?_
      exact r_iret (pc := 53) dX5_saw_53 rfl (by subst hPP; exact (Or.inr ⟨k, q, hk, hqb, rfl, rfl, rfl, AK.put (j := 4) (p := 17) r29.1 hm2 r29.2.2 (by omega) (by omega) hn6 _⟩))
    · have g15 : ¬ rgG 0 9 y := fun z => h15 (rg_mpr z (by omega))
      refine r_ldc (pc := 18) dX5_saw_18 lk_X5_67 ?_
      exact r_iret (pc := 20) dX5_saw_20 rfl (by subst hPP; exact (Or.inl ⟨by first | exact fun z => g5 z.1 | exact fun z => g15 z.2, rfl, rfl⟩))
set_option maxHeartbeats 4000000 in
set_option maxRecDepth 100000 in
theorem c_X5_mend (l : Launch) (G : Gx) (M : Mem) (x : Int32) (S : Nat → Int32) (n : Nat) (hm : ms 18 n S M) (hR : Rg n S) (L : Nat → Nat → Int32) (a : Nat) (hA : hsR M L a) : Con l G yX5_mend cX5_mend 2 (some .int) 3 102 [.ref (gA G 14), .int x] M (fun v M' => (¬ (chG n x) ∧ rI cBad M v M') ∨ (∃ k, k < n ∧ x = nI k ∧ ((S (11 + k) = nI 60 ∧ rI cFull M v M') ∨ (¬ S (11 + k) = nI 60 ∧ qI (glueV S k) (AK M n (upd S (11 + k) (glueV S k)) (psh L a S) (min 24 (a + 1))) v M')))) := by
  refine Con.ofV [some (.ref (gA G 14)), some (.int x)] RX5 (by decide) rfl (Nat.le_of_ble_eq_true rfl) rfl ?_
  intro κ hl hG hk0 hn0
  subst hl hG
  have hcs : κ.k ≤ 0 ∧ κ.n ≤ 0 := ⟨Nat.le_of_eq hk0, Nat.le_of_eq hn0⟩
  generalize hPP : (fun v M' => (¬ (chG n x) ∧ rI cBad M v M') ∨ (∃ k, k < n ∧ x = nI k ∧ ((S (11 + k) = nI 60 ∧ rI cFull M v M') ∨ (¬ S (11 + k) = nI 60 ∧ qI (glueV S k) (AK M n (upd S (11 + k) (glueV S k)) (psh L a S) (min 24 (a + 1))) v M')))) = PP
  have hn := hm.1
  have hn6 := hR.1
  refine r_aload_n (pc := 0) dX5_mend_0 rfl ?_
  refine r_iload_n (pc := 1) dX5_mend_1 rfl ?_
  refine iv_X5_165 (c_X5_isChair _ _ _ _) (pc := 2) dX5_mend_2 rfl ⟨Nat.le_of_ble_eq_true rfl, Nat.le_of_ble_eq_true rfl⟩ (Nat.le_of_ble_eq_true rfl) hcs (kI ?_)
  refine r_ifne_b (tgt := 11) (pc := 5) dX5_mend_5 (by decide) (fun h5 => ?_) (fun h5 => ?_)
  · obtain ⟨k, hk, rfl⟩ := ch_mp hn hn6 h5
    obtain ⟨l1, l2⟩ := (hR.c hk).lg
    refine r_aload_n (pc := 11) dX5_mend_11 rfl ?_
    refine gf_X5_25 (pc := 12) dX5_mend_12 rfl ?_
    refine gf_X5_171 (pc := 15) dX5_mend_15 rfl ?_
    refine r_iload_n (pc := 18) dX5_mend_18 rfl ?_
    refine r_iald (pc := 19) dX5_mend_19 rfl (show _ < 6 by omega) ?_
    refine r_is (nI (lgS S k)) ((hm.2.2.2.2.2 k hk).2.1.trans l1) ?_
    refine r_bipush (v := nI 60) (pc := 20) dX5_mend_20 (by decide) ?_
    refine r_icmp_lt (tgt := 28) (pc := 22) dX5_mend_22 (by decide) (fun h22 => ?_) (fun h22 => ?_)
    · have h22n : ¬ S (11 + k) = nI 60 := fun z => by rw [l1] at z; have := (nI_eq (by omega) (by omega)).mp z; have := (nI_ltI (by omega) (by omega)).mp h22; omega
      refine r_aload_n (pc := 28) dX5_mend_28 rfl ?_
      refine gf_X5_42 (pc := 29) dX5_mend_29 rfl ?_
      refine r_aload_n (pc := 32) dX5_mend_32 rfl ?_
      refine gf_X5_25 (pc := 33) dX5_mend_33 rfl ?_
      refine iv_X5_155 (d_X1_keep M L a n S hA hm hR (by omega)) (pc := 36) dX5_mend_36 rfl ⟨Nat.le_of_ble_eq_true rfl, Nat.le_of_ble_eq_true rfl⟩ (Nat.le_of_ble_eq_true rfl) hcs (kqV (fun N36 r36 => ?_))
      have hm2 := hm.lo r36.2.1
      refine r_aload_n (pc := 39) dX5_mend_39 rfl ?_
      refine gf_X5_25 (pc := 40) dX5_mend_40 rfl ?_
      refine r_iload_n (pc := 43) dX5_mend_43 rfl ?_
      refine iv_X5_174 (c_X2_glueLeg_18 _ _ _ k S n hm2 hR hk) (pc := 44) dX5_mend_44 rfl ⟨Nat.le_of_ble_eq_true rfl, Nat.le_of_ble_eq_true rfl⟩ (Nat.le_of_ble_eq_true rfl) hcs (kV ?_)
      refine r_aload_n (pc := 47) dX5_mend_47 rfl ?_
      refine gf_X5_25 (pc := 48) dX5_mend_48 rfl ?_
      refine gf_X5_171 (pc := 51) dX5_mend_51 rfl ?_
      refine r_iload_n (pc := 54) dX5_mend_54 rfl ?_
      refine r_iald (pc := 55) dX5_mend_55 rfl (show _ < 6 by omega) ?_
      refine r_is (glueV S k) (by rw [mset_eq, pk_us]) ?_
      exact r_iret (pc := 56) dX5_mend_56 rfl (by subst hPP; exact (Or.inr ⟨k, hk, rfl, Or.inr ⟨h22n, rfl, AK.put (j := 2) (p := 11) r36.1 hm2 r36.2.2 (by omega) (by omega) hn6 _⟩⟩))
    · have h22n : S (11 + k) = nI 60 := by rw [l1]; have : ¬ lgS S k < 60 := fun z => h22 (nI_lt z (by omega)); congr 1; omega
      refine r_ldc (pc := 25) dX5_mend_25 lk_X5_118 ?_
      exact r_iret (pc := 27) dX5_mend_27 rfl (by subst hPP; exact (Or.inr ⟨k, hk, rfl, Or.inl ⟨h22n, rfl, rfl⟩⟩))
  · have g5 : ¬ chG n x := fun z => h5 (ch_mpr hn hn6 z)
    refine r_ldc (pc := 8) dX5_mend_8 lk_X5_67 ?_
    exact r_iret (pc := 10) dX5_mend_10 rfl (by subst hPP; exact (Or.inl ⟨by first | exact fun z => g5 z, rfl, rfl⟩))
set_option maxHeartbeats 4000000 in
set_option maxRecDepth 100000 in
theorem c_X5_change (l : Launch) (G : Gx) (M : Mem) (x y : Int32) (S : Nat → Int32) (n : Nat) (hm : ms 18 n S M) (hR : Rg n S) (L : Nat → Nat → Int32) (a : Nat) (hA : hsR M L a) : Con l G yX5_change cX5_change 3 (some .int) 3 102 [.ref (gA G 14), .int x, .int y] M (fun v M' => (¬ (chG n x ∧ chG n y ∧ ¬ x = y) ∧ rI cBad M v M') ∨ (∃ k q, k < n ∧ q < n ∧ k ≠ q ∧ x = nI k ∧ y = nI q ∧ qI (tgtS (chgS S k q) n k) (AK M n (chgS S k q) (psh L a S) (min 24 (a + 1))) v M')) := by
  refine Con.ofV [some (.ref (gA G 14)), some (.int x), some (.int y)] RX5 (by decide) rfl (Nat.le_of_ble_eq_true rfl) rfl ?_
  intro κ hl hG hk0 hn0
  subst hl hG
  have hcs : κ.k ≤ 0 ∧ κ.n ≤ 0 := ⟨Nat.le_of_eq hk0, Nat.le_of_eq hn0⟩
  generalize hPP : (fun v M' => (¬ (chG n x ∧ chG n y ∧ ¬ x = y) ∧ rI cBad M v M') ∨ (∃ k q, k < n ∧ q < n ∧ k ≠ q ∧ x = nI k ∧ y = nI q ∧ qI (tgtS (chgS S k q) n k) (AK M n (chgS S k q) (psh L a S) (min 24 (a + 1))) v M')) = PP
  have hn := hm.1
  have hn6 := hR.1
  refine r_aload_n (pc := 0) dX5_change_0 rfl ?_
  refine r_iload_n (pc := 1) dX5_change_1 rfl ?_
  refine iv_X5_165 (c_X5_isChair _ _ _ _) (pc := 2) dX5_change_2 rfl ⟨Nat.le_of_ble_eq_true rfl, Nat.le_of_ble_eq_true rfl⟩ (Nat.le_of_ble_eq_true rfl) hcs (kI ?_)
  refine r_ifeq_b (tgt := 21) (pc := 5) dX5_change_5 (by decide) (fun h5 => ?_) (fun h5 => ?_)
  · have g5 : ¬ chG n x := fun z => h5 (ch_mpr hn hn6 z)
    refine r_ldc (pc := 21) dX5_change_21 lk_X5_67 ?_
    exact r_iret (pc := 23) dX5_change_23 rfl (by subst hPP; exact (Or.inl ⟨by first | exact fun z => g5 z.1 | exact fun z => g13 z.2.1 | exact fun z => z.2.2 h18, rfl, rfl⟩))
  · obtain ⟨k, hk, rfl⟩ := ch_mp hn hn6 h5
    refine r_aload_n (pc := 8) dX5_change_8 rfl ?_
    refine r_iload_n (pc := 9) dX5_change_9 rfl ?_
    refine iv_X5_165 (c_X5_isChair _ _ _ _) (pc := 10) dX5_change_10 rfl ⟨Nat.le_of_ble_eq_true rfl, Nat.le_of_ble_eq_true rfl⟩ (Nat.le_of_ble_eq_true rfl) hcs (kI ?_)
    refine r_ifeq_b (tgt := 21) (pc := 13) dX5_change_13 (by decide) (fun h13 => ?_) (fun h13 => ?_)
    · have g13 : ¬ chG n y := fun z => h13 (ch_mpr hn hn6 z)
      refine r_ldc (pc := 21) dX5_change_21 lk_X5_67 ?_
      exact r_iret (pc := 23) dX5_change_23 rfl (by subst hPP; exact (Or.inl ⟨by first | exact fun z => g5 z.1 | exact fun z => g13 z.2.1 | exact fun z => z.2.2 h18, rfl, rfl⟩))
    · obtain ⟨q, hq, rfl⟩ := ch_mp hn hn6 h13
      refine r_iload_n (pc := 16) dX5_change_16 rfl ?_
      refine r_iload_n (pc := 17) dX5_change_17 rfl ?_
      refine r_icmp_ne (tgt := 24) (pc := 18) dX5_change_18 (by decide) (fun h18 => ?_) (fun h18 => ?_)
      · have hkq : k ≠ q := fun z => h18 (by rw [z])
        refine r_aload_n (pc := 24) dX5_change_24 rfl ?_
        refine gf_X5_42 (pc := 25) dX5_change_25 rfl ?_
        refine r_aload_n (pc := 28) dX5_change_28 rfl ?_
        refine gf_X5_25 (pc := 29) dX5_change_29 rfl ?_
        refine iv_X5_155 (d_X1_keep M L a n S hA hm hR (by omega)) (pc := 32) dX5_change_32 rfl ⟨Nat.le_of_ble_eq_true rfl, Nat.le_of_ble_eq_true rfl⟩ (Nat.le_of_ble_eq_true rfl) hcs (kqV (fun N32 r32 => ?_))
        have hm2 := hm.lo r32.2.1
        refine r_aload_n (pc := 35) dX5_change_35 rfl ?_
        refine gf_X5_25 (pc := 36) dX5_change_36 rfl ?_
        refine r_iload_n (pc := 39) dX5_change_39 rfl ?_
        refine r_iload_n (pc := 40) dX5_change_40 rfl ?_
        refine iv_X5_192 (c_X2_exchangeSitters_18 _ _ _ k q (by omega) (by omega)) (pc := 41) dX5_change_41 rfl ⟨Nat.le_of_ble_eq_true rfl, Nat.le_of_ble_eq_true rfl⟩ (Nat.le_of_ble_eq_true rfl) hcs (kV ?_)
        have hm3 := hm2.chg hk hq hn6
        refine r_aload_n (pc := 44) dX5_change_44 rfl ?_
        refine gf_X5_25 (pc := 45) dX5_change_45 rfl ?_
        refine r_iload_n (pc := 48) dX5_change_48 rfl ?_
        refine iv_X5_195 (c_X2_preyOf_18 _ _ _ k (chgS S k q) n hm3 (hR.chg hk hq) hk) (pc := 49) dX5_change_49 rfl ⟨Nat.le_of_ble_eq_true rfl, Nat.le_of_ble_eq_true rfl⟩ (Nat.le_of_ble_eq_true rfl) hcs (kqI (fun N49 r49 => ?_))
        exact r_iret (pc := 52) dX5_change_52 rfl (by subst hPP; exact (Or.inr ⟨k, q, hk, hq, hkq, rfl, rfl, rfl, fun j hj => by rw [r49 j (by omega) (by omega) (by omega), setA_ne _ _ (by omega), setA_ne _ _ (by omega), setA_ne _ _ (by omega)]; exact r32.1 j hj, r49.ms hm3, r32.2.2.fr (fun j hj => by rw [r49 j (by omega) (by omega) (by omega), setA_ne _ _ (by omega), setA_ne _ _ (by omega), setA_ne _ _ (by omega)])⟩))
      · refine r_ldc (pc := 21) dX5_change_21 lk_X5_67 ?_
        exact r_iret (pc := 23) dX5_change_23 rfl (by subst hPP; exact (Or.inl ⟨by first | exact fun z => g5 z.1 | exact fun z => g13 z.2.1 | exact fun z => z.2.2 h18, rfl, rfl⟩))
set_option maxHeartbeats 4000000 in
set_option maxRecDepth 100000 in
theorem c_X5_undo (l : Launch) (G : Gx) (M : Mem) (L : Nat → Nat → Int32) (a : Nat) (hA : hsR M L a) : Con l G yX5_undo cX5_undo 1 (some .int) 3 102 [.ref (gA G 14)] M (fun v M' => (a = 0 ∧ rI cState M v M') ∨ (0 < a ∧ qI (nI (a - 1)) (fun N => fak M N ∧ hsR N L (a - 1) ∧ ∃ m, 0 < m ∧ Rg m (L (a - 1)) ∧ ms 18 m (L (a - 1)) N) v M')) := by
  refine Con.ofV [some (.ref (gA G 14))] RX5 (by decide) rfl (Nat.le_of_ble_eq_true rfl) rfl ?_
  intro κ hl hG hk0 hn0
  subst hl hG
  have hcs : κ.k ≤ 0 ∧ κ.n ≤ 0 := ⟨Nat.le_of_eq hk0, Nat.le_of_eq hn0⟩
  generalize hPP : (fun v M' => (a = 0 ∧ rI cState M v M') ∨ (0 < a ∧ qI (nI (a - 1)) (fun N => fak M N ∧ hsR N L (a - 1) ∧ ∃ m, 0 < m ∧ Rg m (L (a - 1)) ∧ ms 18 m (L (a - 1)) N) v M')) = PP
  obtain ⟨old, h1, h2, h3, h4, h5⟩ := hA
  refine r_aload_n (pc := 0) dX5_undo_0 rfl ?_
  refine gf_X5_42 (pc := 1) dX5_undo_1 rfl ?_
  refine r_aload_n (pc := 4) dX5_undo_4 rfl ?_
  refine gf_X5_25 (pc := 5) dX5_undo_5 rfl ?_
  refine iv_X5_141 (c_X1_takeBack _ _ _ old a h1 h2 h3 h4) (pc := 8) dX5_undo_8 rfl ⟨Nat.le_of_ble_eq_true rfl, Nat.le_of_ble_eq_true rfl⟩ (Nat.le_of_ble_eq_true rfl) hcs (kqI (fun N8 r8 => ?_))
  refine r_ifeq_b (tgt := 24) (pc := 11) dX5_undo_11 (by decide) (fun h11 => ?_) (fun h11 => ?_)
  · have e8 := (r8.resolve_right (fun z => h11 z.1)).2
    subst e8
    refine r_ldc (pc := 24) dX5_undo_24 lk_X5_148 ?_
    exact r_iret (pc := 26) dX5_undo_26 rfl (by subst hPP; exact (by first | exact Or.inl ⟨by omega, rfl, rfl⟩ | exact Or.inr ⟨h11, rfl, fun q hq => by rw [RA_fr _ _ _ (by omega), mset_ne _ _ _ (by omega)], ⟨old, h1, by omega, by rw [RA_fr _ _ _ (by omega), mset_eq, pk_un (by decide)]; exact h3, by rw [RA_fr _ _ _ (by omega), mset_eq, pk_us], fun i hi => by rw [RA_fr _ _ _ (by omega), mset_ne _ _ _ (by omega)]; exact h5 i (by omega)⟩, by obtain ⟨m, m1, m2, m3⟩ := h5 (a - 1) (by omega); exact ⟨m, m1, m2, cel_ms (RA_cel _ 18 _) m3 m2.1⟩⟩))
  · have e8 := (r8.resolve_left (fun z => by omega)).2
    subst e8
    refine r_aload_n (pc := 14) dX5_undo_14 rfl ?_
    refine gf_X5_42 (pc := 15) dX5_undo_15 rfl ?_
    refine gf_X5_145 (pc := 18) dX5_undo_18 rfl ?_
    refine r_is (nI (a - 1)) (by rw [RA_fr _ _ _ (by omega), mset_eq, pk_us]) ?_
    refine r_goto (tgt := 26) (pc := 21) dX5_undo_21 (by decide) ?_
    exact r_iret (pc := 26) dX5_undo_26 rfl (by subst hPP; exact (by first | exact Or.inl ⟨by omega, rfl, rfl⟩ | exact Or.inr ⟨h11, rfl, fun q hq => by rw [RA_fr _ _ _ (by omega), mset_ne _ _ _ (by omega)], ⟨old, h1, by omega, by rw [RA_fr _ _ _ (by omega), mset_eq, pk_un (by decide)]; exact h3, by rw [RA_fr _ _ _ (by omega), mset_eq, pk_us], fun i hi => by rw [RA_fr _ _ _ (by omega), mset_ne _ _ _ (by omega)]; exact h5 i (by omega)⟩, by obtain ⟨m, m1, m2, m3⟩ := h5 (a - 1) (by omega); exact ⟨m, m1, m2, cel_ms (RA_cel _ 18 _) m3 m2.1⟩⟩))
set_option maxHeartbeats 4000000 in
set_option maxRecDepth 100000 in
theorem c_X5_nights (l : Launch) (G : Gx) (M : Mem) (x : Int32) (S : Nat → Int32) (n : Nat) (hm : ms 18 n S M) (hR : Rg n S) (L : Nat → Nat → Int32) (a : Nat) (hA : hsR M L a) : Con l G yX5_nights cX5_nights 3 (some .int) 3 107 [.ref (gA G 14), .int x] M (fun v M' => (n = 0 ∧ rI cState M v M') ∨ (0 < n ∧ ¬ rgG 1 24 x ∧ rI cBad M v M') ∨ (0 < n ∧ ∃ q, 1 ≤ q ∧ q ≤ 24 ∧ x = nI q ∧ ((¬ S 3 + nI q ≤ nI 999 ∧ rI cFull M v M') ∨ (S 3 + nI q ≤ nI 999 ∧ qI (atN (goP S n q) n (nI 0) n) (AK M n (goP S n q) (psN L a S n q) (min 24 (a + q))) v M')))) := by
  refine Con.ofV [some (.ref (gA G 14)), some (.int x), none] RX5 (by decide) rfl (Nat.le_of_ble_eq_true rfl) rfl ?_
  intro κ hl hG hk0 hn0
  subst hl hG
  have hcs : κ.k ≤ 0 ∧ κ.n ≤ 0 := ⟨Nat.le_of_eq hk0, Nat.le_of_eq hn0⟩
  generalize hPP : (fun v M' => (n = 0 ∧ rI cState M v M') ∨ (0 < n ∧ ¬ rgG 1 24 x ∧ rI cBad M v M') ∨ (0 < n ∧ ∃ q, 1 ≤ q ∧ q ≤ 24 ∧ x = nI q ∧ ((¬ S 3 + nI q ≤ nI 999 ∧ rI cFull M v M') ∨ (S 3 + nI q ≤ nI 999 ∧ qI (atN (goP S n q) n (nI 0) n) (AK M n (goP S n q) (psN L a S n q) (min 24 (a + q))) v M')))) = PP
  have hn := hm.1
  have hn6 := hR.1
  refine r_aload_n (pc := 0) dX5_nights_0 rfl ?_
  refine iv_X5_149 (c_X5_isEmpty _ _ _ n (by first | assumption | exact hm.1) hn6) (pc := 1) dX5_nights_1 rfl ⟨Nat.le_of_ble_eq_true rfl, Nat.le_of_ble_eq_true rfl⟩ (Nat.le_of_ble_eq_true rfl) hcs (kI ?_)
  refine r_ifeq_b (tgt := 10) (pc := 4) dX5_nights_4 (by decide) (fun h4 => ?_) (fun h4 => ?_)
  · have hn1 : 0 < n := Nat.pos_of_ne_zero h4
    refine r_iload_n (pc := 10) dX5_nights_10 rfl ?_
    refine r_iconst (v := nI 1) (pc := 11) dX5_nights_11 (by decide) ?_
    refine r_bipush (v := nI 24) (pc := 12) dX5_nights_12 (by decide) ?_
    refine iv_X5_63 (c_X5_within _ _ _ _ _ _) (pc := 14) dX5_nights_14 ⟨Nat.le_of_ble_eq_true rfl, Nat.le_of_ble_eq_true rfl⟩ (Nat.le_of_ble_eq_true rfl) hcs (kI ?_)
    refine r_ifne_b (tgt := 23) (pc := 17) dX5_nights_17 (by decide) (fun h17 => ?_) (fun h17 => ?_)
    · obtain ⟨q, hqa, hqb, rfl⟩ := rg_mp (a := 1) (b := 24) h17 (by omega) (by omega)
      refine r_aload_n (pc := 23) dX5_nights_23 rfl ?_
      refine gf_X5_25 (pc := 24) dX5_nights_24 rfl ?_
      refine gf_X5_152 (pc := 27) dX5_nights_27 rfl ?_
      refine r_is (S 3) (hm.2.2.2.1) ?_
      refine r_iload_n (pc := 30) dX5_nights_30 rfl ?_
      first | with_reducible refine r_iaddN (pc := 31) dX5_nights_31 ?_ | refine r_iadd (pc := 31) dX5_nights_31 ?_
      refine r_sipush (v := nI 999) (pc := 32) dX5_nights_32 (by decide) ?_
      refine r_icmp_le (tgt := 41) (pc := 35) dX5_nights_35 (by decide) (fun h35 => ?_) (fun h35 => ?_)
      · have hA0 : hsR M L (min 24 (a + 0)) := by rw [Nat.add_zero, Nat.min_eq_right (by obtain ⟨old, h1, h2, -⟩ := hA; exact h2)]; exact hA
        refine r_iconst (v := nI 0) (pc := 41) dX5_nights_41 (by decide) ?_
        refine r_st_n [_, _, _] (pc := 42) dX5_nights_42 (by decide) rfl rfl ?_
        refine V.bk (loopV (fun (σ : Nat × Mem) => V κ cX5_nights RX5 3 (some .int) (rmx 3 107) (QM κ PP) (σ.2) 43 [some (.ref (gA κ.G 14)), some (.int (nI q)), some (.int (nI (σ.1)))] []) (fun (σ : Nat × Mem) => (σ.1) ≤ q ∧ AK M n (goP S n (σ.1)) (psN L a S n (σ.1)) (min 24 (a + (σ.1))) (σ.2)) (fun (σ : Nat × Mem) => q - (σ.1)) ?_ (0, M) ⟨Nat.zero_le _, fak.refl _, hm, hA0⟩) rfl (by (repeat (first | exact wk_0 | refine wk_n ?_ | refine wk_s rfl ?_)); done)
        rintro ⟨j, N⟩ hI0 ih
        dsimp only at hI0 ih
        obtain ⟨hj, hf, hmj, hAj⟩ := hI0
        show V κ cX5_nights RX5 3 (some .int) (rmx 3 107) (QM κ PP) N 43 [some (.ref (gA κ.G 14)), some (.int (nI q)), some (.int (nI j))] []
        refine r_iload_n (pc := 43) dX5_nights_43 rfl ?_
        refine r_iload_n (pc := 44) dX5_nights_44 rfl ?_
        refine r_icmp_ge (tgt := 73) (pc := 45) dX5_nights_45 (by decide) (fun h45 => ?_) (fun h45 => ?_)
        · have h45 : q ≤ j := (nI_leI (by omega) (by omega)).mp h45
          obtain rfl : q = j := by omega
          refine r_aload_n (pc := 73) dX5_nights_73 rfl ?_
          refine gf_X5_25 (pc := 74) dX5_nights_74 rfl ?_
          refine r_iconst (v := nI 0) (pc := 77) dX5_nights_77 (by decide) ?_
          refine iv_X5_162 (c_X2_atRank_18 _ _ _ 0 (goP S n q) n hmj (hR.go hn1 q) hn1) (pc := 78) dX5_nights_78 rfl ⟨Nat.le_of_ble_eq_true rfl, Nat.le_of_ble_eq_true rfl⟩ (Nat.le_of_ble_eq_true rfl) hcs (kqI (fun N78 r78 => ?_))
          exact r_iret (pc := 81) dX5_nights_81 rfl (by subst hPP; exact (Or.inr (Or.inr ⟨hn1, q, hqa, hqb, rfl, Or.inr ⟨h35, rfl, hf.trans r78.fro.fak, r78.ms hmj, hAj.fr (fun z hz => r78 z (by omega) (by omega) (by omega))⟩⟩)))
        · have h45 : j < q := Nat.not_le.mp (fun z => h45 ((nI_leI (by omega) (by omega)).mpr z))
          refine r_aload_n (pc := 48) dX5_nights_48 rfl ?_
          refine gf_X5_42 (pc := 49) dX5_nights_49 rfl ?_
          refine r_aload_n (pc := 52) dX5_nights_52 rfl ?_
          refine gf_X5_25 (pc := 53) dX5_nights_53 rfl ?_
          refine iv_X5_155 (d_X1_keep N (psN L a S n j) (min 24 (a + j)) n (goP S n j) hAj hmj (hR.go hn1 j) hn1) (pc := 56) dX5_nights_56 rfl ⟨Nat.le_of_ble_eq_true rfl, Nat.le_of_ble_eq_true rfl⟩ (Nat.le_of_ble_eq_true rfl) hcs (kqV (fun N56 r56 => ?_))
          refine r_aload_n (pc := 59) dX5_nights_59 rfl ?_
          refine gf_X5_25 (pc := 60) dX5_nights_60 rfl ?_
          refine iv_X5_159 (c_X2_passNight_18 _ _ _ (goP S n j) n (hmj.lo r56.2.1) (hR.go hn1 j) hn1) (pc := 63) dX5_nights_63 rfl ⟨Nat.le_of_ble_eq_true rfl, Nat.le_of_ble_eq_true rfl⟩ (Nat.le_of_ble_eq_true rfl) hcs (kqI (fun N63 r63 => ?_))
          refine r_pop (pc := 66) dX5_nights_66 rfl ?_
          first | refine r_inc [_, _, _] (pc := 67) dX5_nights_67 rfl (nI_inc _) (by decide) rfl rfl ?_ | refine r_inc [_, _, _] (pc := 67) dX5_nights_67 rfl rfl (by decide) rfl rfl ?_
          refine r_goto (tgt := 43) (pc := 70) dX5_nights_70 (by decide) ?_
          exact V.bk (ih (j + 1, N63) ⟨by dsimp only; omega, (hf.trans r56.1).trans r63.1.fak, r63.2, by rw [show min 24 (a + (j + 1)) = min 24 (min 24 (a + j) + 1) by omega]; exact r56.2.2.fr (fun z hz => r63.1 z (by omega))⟩ (by dsimp only; omega)) rfl (by (repeat (first | exact wk_0 | refine wk_n ?_ | refine wk_s rfl ?_)); done)
      · refine r_ldc (pc := 38) dX5_nights_38 lk_X5_118 ?_
        exact r_iret (pc := 40) dX5_nights_40 rfl (by subst hPP; exact (Or.inr (Or.inr ⟨hn1, q, hqa, hqb, rfl, Or.inl ⟨h35, rfl, rfl⟩⟩)))
    · have g17 : ¬ rgG 1 24 x := fun z => h17 (rg_mpr z (by omega))
      refine r_ldc (pc := 20) dX5_nights_20 lk_X5_67 ?_
      exact r_iret (pc := 22) dX5_nights_22 rfl (by subst hPP; exact (Or.inr (Or.inl ⟨hn1, g17, rfl, rfl⟩)))
  · have g4 : n = 0 := h4
    refine r_ldc (pc := 7) dX5_nights_7 lk_X5_148 ?_
    exact r_iret (pc := 9) dX5_nights_9 rfl (by subst hPP; exact (Or.inl ⟨g4, rfl, rfl⟩))
