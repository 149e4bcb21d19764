theorem blN_s (w : Int32) (j : Nat) : lN (blN w j) * (if hasB w (nI j) then (nI 10).toInt64 else (nI 1).toInt64) = lN (blN w (j + 1)) := by
  show _ = lN (blN w j * (if hasB w (nI j) then 10 else 1))
  by_cases h : hasB w (nI j)
  · rw [if_pos h, if_pos h, nI_l (by omega), lN_mul]
  · rw [if_neg h, if_neg h, nI_l (by omega), lN_mul]
theorem abN_s {w : Int32} {pt0 : Nat → Nat} {c : Nat → Prop} [DecidablePred c] {g : Nat} (hz : nI g &&& (w ^^^ -1) = 0) : lN (abN w pt0 (fun i => decide (c i)) g) + (if c g then (nI 0).toInt64 else lN (pt0 g)) = lN (abN w pt0 (fun i => decide (c i)) (g + 1)) := by
  rw [abN, if_pos hz]
  by_cases h : c g
  · rw [if_pos h, if_pos (decide_eq_true h), lN_0, lN_add]
  · rw [if_neg h, if_neg (fun z => h (of_decide_eq_true z)), lN_add]
theorem lN_ne {b : Nat} (h0 : 0 < b) (h : b < 2 ^ 63) : ¬ lN b = 0 := by
  intro z
  have := (fb_lN_inj (a := b) (b := 0) h (by omega)).mp z
  omega
set_option maxHeartbeats 4000000 in
set_option maxRecDepth 100000 in
theorem c_X6_doze (l : Launch) (G : Gx) (M : Mem) (x y z u t : Int32) (w : Nat) (hw : M 4 4 = nI w) (hw64 : w < 64) (n : Nat) (hn : M 4 2 = nI n) (hn6 : n ≤ 6) : Con l G yX6_doze cX6_doze 17 (some .long) 8 179 [.ref (gA G 0), .int x, .int y, .int z, .int u, .int t] M (fun v M' => (¬ (chG n x ∧ rgG 0 5 y ∧ rgG 0 30 z ∧ rgG 0 10 u ∧ rgG 0 1 t) ∧ rL ((-1000001 : Int32).toInt64) M v M') ∨ (∃ k q m p o, k < n ∧ q ≤ 5 ∧ m ≤ 30 ∧ p ≤ 10 ∧ o ≤ 1 ∧ x = nI k ∧ y = nI q ∧ z = nI m ∧ u = nI p ∧ t = nI o ∧ qL (lN (if o = 0 then (abN (nI w) (fun i => ptN (nI w) (nI i) p n) (fun i => decide (nI q < nI (rankN (goP (upd (M 4) 4 (nI w &&& (nI i ^^^ (-1)))) n m) k n))) (w + 1)) / Nat.gcd (abN (nI w) (fun i => ptN (nI w) (nI i) p n) (fun i => decide (nI q < nI (rankN (goP (upd (M 4) 4 (nI w &&& (nI i ^^^ (-1)))) n m) k n))) (w + 1)) (blN (nI w) n) else (blN (nI w) n) / Nat.gcd (abN (nI w) (fun i => ptN (nI w) (nI i) p n) (fun i => decide (nI q < nI (rankN (goP (upd (M 4) 4 (nI w &&& (nI i ^^^ (-1)))) n m) k n))) (w + 1)) (blN (nI w) n))) (qm M) v M')) := by
  refine Con.ofV [some (.ref (gA G 0)), some (.int x), some (.int y), some (.int z), some (.int u), some (.int t), none, none, none, none, none, none, none, none, none, none, none] RX6 (by decide) rfl (Nat.le_of_ble_eq_true rfl) rfl ?_
  intro κ hl hG hk0 hn0
  subst hl hG
  have hcs : κ.k ≤ 0 ∧ κ.n ≤ 0 := ⟨Nat.le_of_eq hk0, Nat.le_of_eq hn0⟩
  generalize hPP : (fun v M' => (¬ (chG n x ∧ rgG 0 5 y ∧ rgG 0 30 z ∧ rgG 0 10 u ∧ rgG 0 1 t) ∧ rL ((-1000001 : Int32).toInt64) M v M') ∨ (∃ k q m p o, k < n ∧ q ≤ 5 ∧ m ≤ 30 ∧ p ≤ 10 ∧ o ≤ 1 ∧ x = nI k ∧ y = nI q ∧ z = nI m ∧ u = nI p ∧ t = nI o ∧ qL (lN (if o = 0 then (abN (nI w) (fun i => ptN (nI w) (nI i) p n) (fun i => decide (nI q < nI (rankN (goP (upd (M 4) 4 (nI w &&& (nI i ^^^ (-1)))) n m) k n))) (w + 1)) / Nat.gcd (abN (nI w) (fun i => ptN (nI w) (nI i) p n) (fun i => decide (nI q < nI (rankN (goP (upd (M 4) 4 (nI w &&& (nI i ^^^ (-1)))) n m) k n))) (w + 1)) (blN (nI w) n) else (blN (nI w) n) / Nat.gcd (abN (nI w) (fun i => ptN (nI w) (nI i) p n) (fun i => decide (nI q < nI (rankN (goP (upd (M 4) 4 (nI w &&& (nI i ^^^ (-1)))) n m) k n))) (w + 1)) (blN (nI w) n))) (qm M) v M')) = PP
  refine r_aload_n (pc := 0) dX6_doze_0 rfl ?_
  refine r_iload_n (pc := 1) dX6_doze_1 rfl ?_
  refine iv_X6_178 (c_X6_isChair _ _ _ _) (pc := 2) dX6_doze_2 rfl ⟨Nat.le_of_ble_eq_true rfl, Nat.le_of_ble_eq_true rfl⟩ (Nat.le_of_ble_eq_true rfl) hcs (kI ?_)
  refine r_ifeq_b (tgt := 53) (pc := 5) dX6_doze_5 (by decide) (fun h5 => ?_) (fun h5 => ?_)
  · have g5 : ¬ chG n x := fun z => h5 (ch_mpr hn hn6 z)
    refine r_ldc2 (pc := 53) dX6_doze_53 lk_X6_237 ?_
    exact r_lret (pc := 56) dX6_doze_56 rfl (by subst hPP; exact (Or.inl ⟨by first | exact fun z => g5 z.1 | exact fun z => g17 z.2.1 | exact fun z => g29 z.2.2.1 | exact fun z => g42 z.2.2.2.1 | exact fun z => g50 z.2.2.2.2, rfl, rfl⟩))
  · obtain ⟨k, hk, rfl⟩ := ch_mp hn hn6 h5
    refine r_iload_n (pc := 8) dX6_doze_8 rfl ?_
    refine r_i2l (pc := 9) dX6_doze_9 ?_
    refine r_lconst (v := (nI 0).toInt64) (pc := 10) dX6_doze_10 (by decide) ?_
    refine r_ldc2 (pc := 11) dX6_doze_11 lk_X6_207 ?_
    refine iv_X6_57 (c_X6_inI _ _ _ _ _ _) (pc := 14) dX6_doze_14 ⟨Nat.le_of_ble_eq_true rfl, Nat.le_of_ble_eq_true rfl⟩ (Nat.le_of_ble_eq_true rfl) hcs (kI ?_)
    refine r_ifeq_b (tgt := 53) (pc := 17) dX6_doze_17 (by decide) (fun h17 => ?_) (fun h17 => ?_)
    · have g17 : ¬ rgG 0 5 y := fun z => h17 (rg_mpr z (by omega))
      refine r_ldc2 (pc := 53) dX6_doze_53 lk_X6_237 ?_
      exact r_lret (pc := 56) dX6_doze_56 rfl (by subst hPP; exact (Or.inl ⟨by first | exact fun z => g5 z.1 | exact fun z => g17 z.2.1 | exact fun z => g29 z.2.2.1 | exact fun z => g42 z.2.2.2.1 | exact fun z => g50 z.2.2.2.2, rfl, rfl⟩))
    · obtain ⟨q, hqa, hqb, rfl⟩ := rg_mp (a := 0) (b := 5) h17 (by omega) (by omega)
      refine r_iload_n (pc := 20) dX6_doze_20 rfl ?_
      refine r_i2l (pc := 21) dX6_doze_21 ?_
      refine r_lconst (v := (nI 0).toInt64) (pc := 22) dX6_doze_22 (by decide) ?_
      refine r_ldc2 (pc := 23) dX6_doze_23 lk_X6_212 ?_
      refine iv_X6_57 (c_X6_inI _ _ _ _ _ _) (pc := 26) dX6_doze_26 ⟨Nat.le_of_ble_eq_true rfl, Nat.le_of_ble_eq_true rfl⟩ (Nat.le_of_ble_eq_true rfl) hcs (kI ?_)
      refine r_ifeq_b (tgt := 53) (pc := 29) dX6_doze_29 (by decide) (fun h29 => ?_) (fun h29 => ?_)
      · have g29 : ¬ rgG 0 30 z := fun z => h29 (rg_mpr z (by omega))
        refine r_ldc2 (pc := 53) dX6_doze_53 lk_X6_237 ?_
        exact r_lret (pc := 56) dX6_doze_56 rfl (by subst hPP; exact (Or.inl ⟨by first | exact fun z => g5 z.1 | exact fun z => g17 z.2.1 | exact fun z => g29 z.2.2.1 | exact fun z => g42 z.2.2.2.1 | exact fun z => g50 z.2.2.2.2, rfl, rfl⟩))
      · obtain ⟨m, hma, hmb, rfl⟩ := rg_mp (a := 0) (b := 30) h29 (by omega) (by omega)
        refine r_iload (pc := 32) dX6_doze_32 rfl ?_
        refine r_i2l (pc := 34) dX6_doze_34 ?_
        refine r_lconst (v := (nI 0).toInt64) (pc := 35) dX6_doze_35 (by decide) ?_
        refine r_ldc2 (pc := 36) dX6_doze_36 lk_X6_235 ?_
        refine iv_X6_57 (c_X6_inI _ _ _ _ _ _) (pc := 39) dX6_doze_39 ⟨Nat.le_of_ble_eq_true rfl, Nat.le_of_ble_eq_true rfl⟩ (Nat.le_of_ble_eq_true rfl) hcs (kI ?_)
        refine r_ifeq_b (tgt := 53) (pc := 42) dX6_doze_42 (by decide) (fun h42 => ?_) (fun h42 => ?_)
        · have g42 : ¬ rgG 0 10 u := fun z => h42 (rg_mpr z (by omega))
          refine r_ldc2 (pc := 53) dX6_doze_53 lk_X6_237 ?_
          exact r_lret (pc := 56) dX6_doze_56 rfl (by subst hPP; exact (Or.inl ⟨by first | exact fun z => g5 z.1 | exact fun z => g17 z.2.1 | exact fun z => g29 z.2.2.1 | exact fun z => g42 z.2.2.2.1 | exact fun z => g50 z.2.2.2.2, rfl, rfl⟩))
        · obtain ⟨p, hpa, hpb, rfl⟩ := rg_mp (a := 0) (b := 10) h42 (by omega) (by omega)
          refine r_iload (pc := 45) dX6_doze_45 rfl ?_
          refine iv_X6_217 (c_X6_isWhat _ _ _ _) (pc := 47) dX6_doze_47 ⟨Nat.le_of_ble_eq_true rfl, Nat.le_of_ble_eq_true rfl⟩ (Nat.le_of_ble_eq_true rfl) hcs (kI ?_)
          refine r_ifne_b (tgt := 57) (pc := 50) dX6_doze_50 (by decide) (fun h50 => ?_) (fun h50 => ?_)
          · obtain ⟨o, hoa, hob, rfl⟩ := rg_mp (a := 0) (b := 1) h50 (by omega) (by omega)
            refine r_aload_n (pc := 57) dX6_doze_57 rfl ?_
            refine iv_X6_204 (d_X6_putAside _ _ _) (pc := 58) dX6_doze_58 rfl ⟨Nat.le_of_ble_eq_true rfl, Nat.le_of_ble_eq_true rfl⟩ (Nat.le_of_ble_eq_true rfl) hcs (kqV (fun N58 r58 => ?_))
            refine r_aload_n (pc := 61) dX6_doze_61 rfl ?_
            refine gf_X6_19 (pc := 62) dX6_doze_62 rfl ?_
            refine r_iconst (v := nI 4) (pc := 65) dX6_doze_65 (by decide) ?_
            refine r_iald (pc := 66) dX6_doze_66 rfl (show _ < 41 by omega) ?_
            refine r_is (nI w) (by rw [r58.1]; exact hw) ?_
            refine r_st [_, _, _, _, _, _, _, _, _, _, _, _, _, _, _, _, _] (pc := 67) dX6_doze_67 (by decide) rfl rfl ?_
            refine r_lconst (v := (nI 0).toInt64) (pc := 69) dX6_doze_69 (by decide) ?_
            refine r_lst [_, _, _, _, _, _, _, _, _, _, _, _, _, _, _, _, _] (pc := 70) dX6_doze_70 (by decide) rfl rfl ?_
            refine r_lconst (v := (nI 1).toInt64) (pc := 72) dX6_doze_72 (by decide) ?_
            refine r_lst [_, _, _, _, _, _, _, _, _, _, _, _, _, _, _, _, _] (pc := 73) dX6_doze_73 (by decide) rfl rfl ?_
            refine r_iconst (v := nI 0) (pc := 75) dX6_doze_75 (by decide) ?_
            refine r_st [_, _, _, _, _, _, _, _, _, _, _, _, _, _, _, _, _] (pc := 76) dX6_doze_76 (by decide) rfl rfl ?_
            refine V.bk (loopV (fun (σ : Nat) => V κ cX6_doze RX6 17 (some .long) (rmx 8 179) (QM κ PP) N58 78 [some (.ref (gA κ.G 0)), some (.int (nI k)), some (.int (nI q)), some (.int (nI m)), some (.int (nI p)), some (.int (nI o)), some (.int (nI w)), some (.long (lN (0))), none, some (.long (lN (blN (nI w) σ))), none, some (.int (nI σ)), none, none, none, none, none] []) (fun (σ : Nat) => σ ≤ n) (fun (σ : Nat) => n - σ) ?_ 0 (Nat.zero_le _)) rfl (by (repeat (first | exact wk_0 | refine wk_n ?_ | refine wk_s rfl ?_)); done)
            rintro j hj ih
            show V κ cX6_doze RX6 17 (some .long) (rmx 8 179) (QM κ PP) N58 78 [some (.ref (gA κ.G 0)), some (.int (nI k)), some (.int (nI q)), some (.int (nI m)), some (.int (nI p)), some (.int (nI o)), some (.int (nI w)), some (.long (lN (0))), none, some (.long (lN (blN (nI w) j))), none, some (.int (nI j)), none, none, none, none, none] []
            refine r_iload (pc := 78) dX6_doze_78 rfl ?_
            refine r_aload_n (pc := 80) dX6_doze_80 rfl ?_
            refine gf_X6_19 (pc := 81) dX6_doze_81 rfl ?_
            refine r_iconst (v := nI 2) (pc := 84) dX6_doze_84 (by decide) ?_
            refine r_iald (pc := 85) dX6_doze_85 rfl (show _ < 41 by omega) ?_
            refine r_is (nI n) (r58.n2 hn) ?_
            refine r_icmp_ge (tgt := 117) (pc := 86) dX6_doze_86 (by decide) (fun h86 => ?_) (fun h86 => ?_)
            · have h86 : n ≤ j := (nI_leI (by omega) (by omega)).mp h86
              obtain rfl : n = j := by omega
              refine r_iconst (v := nI 0) (pc := 117) dX6_doze_117 (by decide) ?_
              refine r_st [_, _, _, _, _, _, _, _, _, _, _, _, _, _, _, _, _] (pc := 118) dX6_doze_118 (by decide) rfl rfl ?_
              refine V.bk (loopV (fun (σ : Nat × Mem) => V κ cX6_doze RX6 17 (some .long) (rmx 8 179) (QM κ PP) (σ.2) 120 [some (.ref (gA κ.G 0)), some (.int (nI k)), some (.int (nI q)), some (.int (nI m)), some (.int (nI p)), some (.int (nI o)), some (.int (nI w)), some (.long (lN (abN (nI w) (fun i => ptN (nI w) (nI i) p n) (fun i => decide (nI q < nI (rankN (goP (upd (M 4) 4 (nI w &&& (nI i ^^^ (-1)))) n m) k n))) (σ.1)))), none, some (.long (lN (blN (nI w) n))), none, some (.int (nI (σ.1))), none, none, none, none, none] []) (fun (σ : Nat × Mem) => (σ.1) ≤ w + 1 ∧ rs M (M 4) (σ.2)) (fun (σ : Nat × Mem) => w + 1 - (σ.1)) ?_ (0, N58) ⟨Nat.zero_le _, r58⟩) rfl (by (repeat (first | exact wk_0 | refine wk_n ?_ | refine wk_s rfl ?_)); done)
              rintro ⟨g, N⟩ hI0 ih
              dsimp only at hI0 ih
              obtain ⟨hgw, hN⟩ := hI0
              show V κ cX6_doze RX6 17 (some .long) (rmx 8 179) (QM κ PP) N 120 [some (.ref (gA κ.G 0)), some (.int (nI k)), some (.int (nI q)), some (.int (nI m)), some (.int (nI p)), some (.int (nI o)), some (.int (nI w)), some (.long (lN (abN (nI w) (fun i => ptN (nI w) (nI i) p n) (fun i => decide (nI q < nI (rankN (goP (upd (M 4) 4 (nI w &&& (nI i ^^^ (-1)))) n m) k n))) g))), none, some (.long (lN (blN (nI w) n))), none, some (.int (nI g)), none, none, none, none, none] []
              refine r_iload (pc := 120) dX6_doze_120 rfl ?_
              refine r_iload (pc := 122) dX6_doze_122 rfl ?_
              refine r_icmp_gt (tgt := 241) (pc := 124) dX6_doze_124 (by decide) (fun h124 => ?_) (fun h124 => ?_)
              · have h124 : w < g := (nI_ltI (by omega) (by omega)).mp h124
                obtain rfl : g = w + 1 := by omega
                have hA := abN_le (nI w) (fun i => ptN (nI w) (nI i) p n) (fun i => decide (nI q < nI (rankN (goP (upd (M 4) 4 (nI w &&& (nI i ^^^ (-1)))) n m) k n))) (fun i => Nat.le_trans (ptN_le _ _ hpb n) (ten_le n hn6)) (w + 1)
                have hB := blN_le (nI w) n
                have hB6 := ten_le n hn6
                refine r_lload (pc := 241) dX6_doze_241 rfl ?_
                refine r_lst [_, _, _, _, _, _, _, _, _, _, _, _, _, _, _, _, _] (pc := 243) dX6_doze_243 (by decide) rfl rfl ?_
                refine r_lload (pc := 245) dX6_doze_245 rfl ?_
                refine r_lst [_, _, _, _, _, _, _, _, _, _, _, _, _, _, _, _, _] (pc := 247) dX6_doze_247 (by decide) rfl rfl ?_
                refine V.bk (loopV (fun (σ : Nat × Nat) => V κ cX6_doze RX6 17 (some .long) (rmx 8 179) (QM κ PP) N 249 [some (.ref (gA κ.G 0)), some (.int (nI k)), some (.int (nI q)), some (.int (nI m)), some (.int (nI p)), some (.int (nI o)), some (.int (nI w)), some (.long (lN ((abN (nI w) (fun i => ptN (nI w) (nI i) p n) (fun i => decide (nI q < nI (rankN (goP (upd (M 4) 4 (nI w &&& (nI i ^^^ (-1)))) n m) k n))) (w + 1))))), none, some (.long (lN ((blN (nI w) n)))), none, some (.long (lN (σ.1))), none, some (.long (lN (σ.2))), none, none, none] []) (fun (σ : Nat × Nat) => Nat.gcd (σ.1) (σ.2) = Nat.gcd (abN (nI w) (fun i => ptN (nI w) (nI i) p n) (fun i => decide (nI q < nI (rankN (goP (upd (M 4) 4 (nI w &&& (nI i ^^^ (-1)))) n m) k n))) (w + 1)) (blN (nI w) n) ∧ (σ.1) ≤ 100000000 ∧ (σ.2) ≤ 100000000) (fun (σ : Nat × Nat) => (σ.2)) ?_ ((abN (nI w) (fun i => ptN (nI w) (nI i) p n) (fun i => decide (nI q < nI (rankN (goP (upd (M 4) 4 (nI w &&& (nI i ^^^ (-1)))) n m) k n))) (w + 1)), (blN (nI w) n)) ⟨rfl, by dsimp only; omega, by dsimp only; omega⟩) rfl (by (repeat (first | exact wk_0 | refine wk_n ?_ | refine wk_s rfl ?_)); done)
                rintro ⟨a, b⟩ hI0 ih4
                dsimp only at hI0 ih4
                obtain ⟨hg, ha8, hb8⟩ := hI0
                show V κ cX6_doze RX6 17 (some .long) (rmx 8 179) (QM κ PP) N 249 [some (.ref (gA κ.G 0)), some (.int (nI k)), some (.int (nI q)), some (.int (nI m)), some (.int (nI p)), some (.int (nI o)), some (.int (nI w)), some (.long (lN ((abN (nI w) (fun i => ptN (nI w) (nI i) p n) (fun i => decide (nI q < nI (rankN (goP (upd (M 4) 4 (nI w &&& (nI i ^^^ (-1)))) n m) k n))) (w + 1))))), none, some (.long (lN ((blN (nI w) n)))), none, some (.long (lN a)), none, some (.long (lN b)), none, none, none] []
                refine r_lload (pc := 249) dX6_doze_249 rfl ?_
                refine r_lconst (v := (nI 0).toInt64) (pc := 251) dX6_doze_251 (by decide) ?_
                refine r_lcmp (pc := 252) dX6_doze_252 ?_
                refine r_if_eq (tgt := 274) (pc := 253) dX6_doze_253 (by decide) (fun h253 => ?_) (fun h253 => ?_)
                · have h253 : b = 0 := (fb_lN_inj (by omega) (by omega)).mp ((lg_cmp_eq _ _).mp h253)
                  subst h253
                  have ha0 : a = Nat.gcd (abN (nI w) (fun i => ptN (nI w) (nI i) p n) (fun i => decide (nI q < nI (rankN (goP (upd (M 4) 4 (nI w &&& (nI i ^^^ (-1)))) n m) k n))) (w + 1)) (blN (nI w) n) := by rw [← hg, Nat.gcd_zero_right]
                  have ha1 : 0 < a := by rw [ha0]; exact Nat.gcd_pos_of_pos_right _ (by omega)
                  refine r_iload (pc := 274) dX6_doze_274 rfl ?_
                  refine r_if_ne (tgt := 287) (pc := 276) dX6_doze_276 (by decide) (fun h276 => ?_) (fun h276 => ?_)
                  · have h276 : o ≠ 0 := fun z => h276 (by rw [z]; rfl)
                    refine r_lload (pc := 287) dX6_doze_287 rfl ?_
                    refine r_lload (pc := 289) dX6_doze_289 rfl ?_
                    refine r_ldiv (pc := 291) dX6_doze_291 (by (exact lN_ne ha1 (by omega))) ?_
                    try refine r_isL (lN ((blN (nI w) n) / a)) (pk_lDiv (by omega) ha1 (by omega)) ?_
                    exact r_lret (pc := 292) dX6_doze_292 rfl (by subst hPP; exact (Or.inr ⟨k, q, m, p, o, hk, hqb, hmb, hpb, hob, rfl, rfl, rfl, rfl, rfl, by first | rw [if_pos h276, ← ha0] | rw [if_neg h276, ← ha0], hN.qm⟩))
                  · have h276 : o = 0 := (nI_eq (by omega) (by omega)).mp (h276.trans nI_0.symm)
                    refine r_lload (pc := 279) dX6_doze_279 rfl ?_
                    refine r_lload (pc := 281) dX6_doze_281 rfl ?_
                    refine r_ldiv (pc := 283) dX6_doze_283 (by (exact lN_ne ha1 (by omega))) ?_
                    refine r_isL (lN ((abN (nI w) (fun i => ptN (nI w) (nI i) p n) (fun i => decide (nI q < nI (rankN (goP (upd (M 4) 4 (nI w &&& (nI i ^^^ (-1)))) n m) k n))) (w + 1)) / a)) (pk_lDiv (by omega) ha1 (by omega)) ?_
                    refine r_goto (tgt := 292) (pc := 284) dX6_doze_284 (by decide) ?_
                    try refine r_isL (lN ((blN (nI w) n) / a)) (pk_lDiv (by omega) ha1 (by omega)) ?_
                    exact r_lret (pc := 292) dX6_doze_292 rfl (by subst hPP; exact (Or.inr ⟨k, q, m, p, o, hk, hqb, hmb, hpb, hob, rfl, rfl, rfl, rfl, rfl, by first | rw [if_pos h276, ← ha0] | rw [if_neg h276, ← ha0], hN.qm⟩))
                · have h253 : 0 < b := Nat.pos_of_ne_zero (fun z => h253 ((lg_cmp_eq _ _).mpr (by rw [z]; rfl)))
                  refine r_lload (pc := 256) dX6_doze_256 rfl ?_
                  refine r_lload (pc := 258) dX6_doze_258 rfl ?_
                  refine r_lrem (pc := 260) dX6_doze_260 (by (exact lN_ne h253 (by omega))) ?_
                  refine r_isL (lN (a % b)) (pk_lRem (by omega) h253 (by omega)) ?_
                  refine r_lst [_, _, _, _, _, _, _, _, _, _, _, _, _, _, _, _, _] (pc := 261) dX6_doze_261 (by decide) rfl rfl ?_
                  refine r_lload (pc := 263) dX6_doze_263 rfl ?_
                  refine r_lst [_, _, _, _, _, _, _, _, _, _, _, _, _, _, _, _, _] (pc := 265) dX6_doze_265 (by decide) rfl rfl ?_
                  refine r_lload (pc := 267) dX6_doze_267 rfl ?_
                  refine r_lst [_, _, _, _, _, _, _, _, _, _, _, _, _, _, _, _, _] (pc := 269) dX6_doze_269 (by decide) rfl rfl ?_
                  refine r_goto (tgt := 249) (pc := 271) dX6_doze_271 (by decide) ?_
                  exact V.bk (ih4 (b, a % b) ⟨by rw [← hg]; show Nat.gcd b (a % b) = Nat.gcd a b; rw [Nat.gcd_comm a b, Nat.gcd_rec b a, Nat.gcd_comm], hb8, Nat.le_trans (Nat.mod_le _ _) ha8⟩ (Nat.mod_lt _ h253)) rfl (by (repeat (first | exact wk_0 | refine wk_n ?_ | refine wk_s rfl ?_)); done)
              · have h124 : g ≤ w := Nat.not_lt.mp (fun z => h124 ((nI_ltI (by omega) (by omega)).mpr z))
                refine r_iload (pc := 127) dX6_doze_127 rfl ?_
                refine r_iload (pc := 129) dX6_doze_129 rfl ?_
                refine r_iconst (v := (-1)) (pc := 131) dX6_doze_131 (by decide) ?_
                refine r_ixor (pc := 132) dX6_doze_132 ?_
                refine r_iand (pc := 133) dX6_doze_133 ?_
                refine r_if_ne (tgt := 235) (pc := 134) dX6_doze_134 (by decide) (fun h134 => ?_) (fun h134 => ?_)
                · have e8 : abN (nI w) (fun i => ptN (nI w) (nI i) p n) (fun i => decide (nI q < nI (rankN (goP (upd (M 4) 4 (nI w &&& (nI i ^^^ (-1)))) n m) k n))) (g + 1) = abN (nI w) (fun i => ptN (nI w) (nI i) p n) (fun i => decide (nI q < nI (rankN (goP (upd (M 4) 4 (nI w &&& (nI i ^^^ (-1)))) n m) k n))) g := if_neg h134
                  have hNx := hN
                  refine V.bk (f' := [some (.ref (gA κ.G 0)), some (.int (nI k)), some (.int (nI q)), some (.int (nI m)), some (.int (nI p)), some (.int (nI o)), some (.int (nI w)), some (.long (lN (abN (nI w) (fun i => ptN (nI w) (nI i) p n) (fun i => decide (nI q < nI (rankN (goP (upd (M 4) 4 (nI w &&& (nI i ^^^ (-1)))) n m) k n))) (g + 1)))), none, some (.long (lN (blN (nI w) n))), none, some (.int (nI g)), none, none, none, none, none]) ?_ rfl (wk_s rfl (wk_s rfl (wk_s rfl (wk_s rfl (wk_s rfl (wk_s rfl (wk_s rfl (wk_s (by rw [e8]) (wk_n (wk_s rfl (wk_n (wk_s rfl (wk_n (wk_n (wk_n (wk_n (wk_n wk_0)))))))))))))))))
                  first | refine r_inc [_, _, _, _, _, _, _, _, _, _, _, _, _, _, _, _, _] (pc := 235) dX6_doze_235 rfl (nI_inc _) (by decide) rfl rfl ?_ | refine r_inc [_, _, _, _, _, _, _, _, _, _, _, _, _, _, _, _, _] (pc := 235) dX6_doze_235 rfl rfl (by decide) rfl rfl ?_
                  refine r_goto (tgt := 120) (pc := 238) dX6_doze_238 (by decide) ?_
                  exact V.bk (ih (g + 1, _) ⟨by omega, hNx⟩ (by omega)) rfl (by (repeat (first | exact wk_0 | refine wk_n ?_ | refine wk_s rfl ?_)); done)
                · refine r_lconst (v := (nI 1).toInt64) (pc := 137) dX6_doze_137 (by decide) ?_
                  refine r_lst [_, _, _, _, _, _, _, _, _, _, _, _, _, _, _, _, _] (pc := 138) dX6_doze_138 (by decide) rfl rfl ?_
                  refine r_iconst (v := nI 0) (pc := 140) dX6_doze_140 (by decide) ?_
                  refine r_st [_, _, _, _, _, _, _, _, _, _, _, _, _, _, _, _, _] (pc := 141) dX6_doze_141 (by decide) rfl rfl ?_
                  refine V.bk (loopV (fun (σ : Nat) => V κ cX6_doze RX6 17 (some .long) (rmx 8 179) (QM κ PP) N 143 [some (.ref (gA κ.G 0)), some (.int (nI k)), some (.int (nI q)), some (.int (nI m)), some (.int (nI p)), some (.int (nI o)), some (.int (nI w)), some (.long (lN (abN (nI w) (fun i => ptN (nI w) (nI i) p n) (fun i => decide (nI q < nI (rankN (goP (upd (M 4) 4 (nI w &&& (nI i ^^^ (-1)))) n m) k n))) g))), none, some (.long (lN (blN (nI w) n))), none, some (.int (nI g)), some (.long (lN (ptN (nI w) (nI g) p σ))), none, some (.int (nI σ)), none, none] []) (fun (σ : Nat) => σ ≤ n) (fun (σ : Nat) => n - σ) ?_ 0 (Nat.zero_le _)) rfl (by (repeat (first | exact wk_0 | refine wk_n ?_ | refine wk_s rfl ?_)); done)
                  rintro c hc ih3
                  show V κ cX6_doze RX6 17 (some .long) (rmx 8 179) (QM κ PP) N 143 [some (.ref (gA κ.G 0)), some (.int (nI k)), some (.int (nI q)), some (.int (nI m)), some (.int (nI p)), some (.int (nI o)), some (.int (nI w)), some (.long (lN (abN (nI w) (fun i => ptN (nI w) (nI i) p n) (fun i => decide (nI q < nI (rankN (goP (upd (M 4) 4 (nI w &&& (nI i ^^^ (-1)))) n m) k n))) g))), none, some (.long (lN (blN (nI w) n))), none, some (.int (nI g)), some (.long (lN (ptN (nI w) (nI g) p c))), none, some (.int (nI c)), none, none] []
                  refine r_iload (pc := 143) dX6_doze_143 rfl ?_
                  refine r_aload_n (pc := 145) dX6_doze_145 rfl ?_
                  refine gf_X6_19 (pc := 146) dX6_doze_146 rfl ?_
                  refine r_iconst (v := nI 2) (pc := 149) dX6_doze_149 (by decide) ?_
                  refine r_iald (pc := 150) dX6_doze_150 rfl (show _ < 41 by omega) ?_
                  refine r_is (nI n) (hN.n2 hn) ?_
                  refine r_icmp_ge (tgt := 201) (pc := 151) dX6_doze_151 (by decide) (fun h151 => ?_) (fun h151 => ?_)
                  · have h151 : n ≤ c := (nI_leI (by omega) (by omega)).mp h151
                    obtain rfl : n = c := by omega
                    refine r_aload_n (pc := 201) dX6_doze_201 rfl ?_
                    refine gf_X6_19 (pc := 202) dX6_doze_202 rfl ?_
                    refine r_iconst (v := nI 4) (pc := 205) dX6_doze_205 (by decide) ?_
                    refine r_iload (pc := 206) dX6_doze_206 rfl ?_
                    refine r_iload (pc := 208) dX6_doze_208 rfl ?_
                    refine r_iconst (v := (-1)) (pc := 210) dX6_doze_210 (by decide) ?_
                    refine r_ixor (pc := 211) dX6_doze_211 ?_
                    refine r_iand (pc := 212) dX6_doze_212 ?_
                    refine r_iast (pc := 213) dX6_doze_213 rfl (show _ < 41 by omega) ?_
                    refine r_lload (pc := 214) dX6_doze_214 rfl ?_
                    refine r_aload_n (pc := 216) dX6_doze_216 rfl ?_
                    refine r_iload_n (pc := 217) dX6_doze_217 rfl ?_
                    refine r_iload_n (pc := 218) dX6_doze_218 rfl ?_
                    refine iv_X6_214 (d_X6_rankBy _ _ M _ _ _ _ n (by omega) (by omega) (hN.put (by omega) _) (by rw [pk_un (by omega)]; exact hn) hn6 (by omega)) (pc := 219) dX6_doze_219 rfl ⟨Nat.le_of_ble_eq_true rfl, Nat.le_of_ble_eq_true rfl⟩ (Nat.le_of_ble_eq_true rfl) hcs (kqI (fun N219 r219 => ?_))
                    refine r_iload_n (pc := 222) dX6_doze_222 rfl ?_
                    refine t_icmp_gtL (tgt := 231) (J := 232) (a := ?pA223x1) (b := ?pB223x1) (pc := 223) dX6_doze_223 (by decide) (fun k223x1 => ?pT223x1) (fun k223x1 => ?pF223x1) ?pK223x1
                    case pT223x1 =>
                      refine r_lconst (v := (nI 0).toInt64) (pc := 231) dX6_doze_231 (by decide) ?_
                      exact k223x1
                    case pF223x1 =>
                      refine r_lload (pc := 226) dX6_doze_226 rfl ?_
                      refine r_goto (tgt := 232) (pc := 228) dX6_doze_228 (by decide) ?_
                      exact k223x1
                    case pK223x1 =>
                      refine r_ladd (pc := 232) dX6_doze_232 ?_
                      refine r_isL (lN (abN (nI w) (fun i => ptN (nI w) (nI i) p n) (fun i => decide (nI q < nI (rankN (goP (upd (M 4) 4 (nI w &&& (nI i ^^^ (-1)))) n m) k n))) (g + 1))) (abN_s (w := nI w) (pt0 := (fun i => ptN (nI w) (nI i) p n)) (c := fun i => nI q < nI (rankN (goP (upd (M 4) 4 (nI w &&& (nI i ^^^ (-1)))) n m) k n)) h134) ?_
                      have hNx := r219
                      refine r_lst [_, _, _, _, _, _, _, _, _, _, _, _, _, _, _, _, _] (pc := 233) dX6_doze_233 (by decide) rfl rfl ?_
                      first | refine r_inc [_, _, _, _, _, _, _, _, _, _, _, _, _, _, _, _, _] (pc := 235) dX6_doze_235 rfl (nI_inc _) (by decide) rfl rfl ?_ | refine r_inc [_, _, _, _, _, _, _, _, _, _, _, _, _, _, _, _, _] (pc := 235) dX6_doze_235 rfl rfl (by decide) rfl rfl ?_
                      refine r_goto (tgt := 120) (pc := 238) dX6_doze_238 (by decide) ?_
                      exact V.bk (ih (g + 1, _) ⟨by omega, hNx⟩ (by omega)) rfl (by (repeat (first | exact wk_0 | refine wk_n ?_ | refine wk_s rfl ?_)); done)
                  · have h151 : c < n := Nat.not_le.mp (fun z => h151 ((nI_leI (by omega) (by omega)).mpr z))
                    refine r_lload (pc := 154) dX6_doze_154 rfl ?_
                    refine r_iload (pc := 156) dX6_doze_156 rfl ?_
                    refine r_iload (pc := 158) dX6_doze_158 rfl ?_
                    refine iv_X6_162 (c_X6_has _ _ _ _ _) (pc := 160) dX6_doze_160 ⟨Nat.le_of_ble_eq_true rfl, Nat.le_of_ble_eq_true rfl⟩ (Nat.le_of_ble_eq_true rfl) hcs (kI ?_)
                    refine r_ifne_b (tgt := 170) (pc := 163) dX6_doze_163 (by decide) (fun h163 => ?_) (fun h163 => ?_)
                    · refine r_iload (pc := 170) dX6_doze_170 rfl ?_
                      refine r_iload (pc := 172) dX6_doze_172 rfl ?_
                      refine iv_X6_162 (c_X6_has _ _ _ _ _) (pc := 174) dX6_doze_174 ⟨Nat.le_of_ble_eq_true rfl, Nat.le_of_ble_eq_true rfl⟩ (Nat.le_of_ble_eq_true rfl) hcs (kI ?_)
                      refine r_ifeq_b (tgt := 186) (pc := 177) dX6_doze_177 (by decide) (fun h177 => ?_) (fun h177 => ?_)
                      · have e7 : lN (ptN (nI w) (nI g) p c) * (nI (10 - p)).toInt64 = lN (ptN (nI w) (nI g) p (c + 1)) := by rw [ptN, if_pos h163, if_neg h177, nI_l (by omega), lN_mul]
                        refine r_bipush (v := nI 10) (pc := 186) dX6_doze_186 (by decide) ?_
                        refine r_iload (pc := 188) dX6_doze_188 rfl ?_
                        first | (with_reducible refine r_isubN (pc := 190) dX6_doze_190 ?hle ?_; case hle => omega) | refine r_isub (pc := 190) dX6_doze_190 ?_
                        refine r_i2l (pc := 191) dX6_doze_191 ?_
                        refine r_lmul (pc := 192) dX6_doze_192 ?_
                        refine r_isL _ e7 ?_
                        refine r_lst [_, _, _, _, _, _, _, _, _, _, _, _, _, _, _, _, _] (pc := 193) dX6_doze_193 (by decide) rfl rfl ?_
                        first | refine r_inc [_, _, _, _, _, _, _, _, _, _, _, _, _, _, _, _, _] (pc := 195) dX6_doze_195 rfl (nI_inc _) (by decide) rfl rfl ?_ | refine r_inc [_, _, _, _, _, _, _, _, _, _, _, _, _, _, _, _, _] (pc := 195) dX6_doze_195 rfl rfl (by decide) rfl rfl ?_
                        refine r_goto (tgt := 143) (pc := 198) dX6_doze_198 (by decide) ?_
                        exact V.bk (ih3 (c + 1) (by omega) (by omega)) rfl (by (repeat (first | exact wk_0 | refine wk_n ?_ | refine wk_s rfl ?_)); done)
                      · have e7 : lN (ptN (nI w) (nI g) p c) * (nI p).toInt64 = lN (ptN (nI w) (nI g) p (c + 1)) := by rw [ptN, if_pos h163, if_pos h177, nI_l (by omega), lN_mul]
                        refine r_iload (pc := 180) dX6_doze_180 rfl ?_
                        refine r_i2l (pc := 182) dX6_doze_182 ?_
                        refine r_goto (tgt := 192) (pc := 183) dX6_doze_183 (by decide) ?_
                        refine r_lmul (pc := 192) dX6_doze_192 ?_
                        refine r_isL _ e7 ?_
                        refine r_lst [_, _, _, _, _, _, _, _, _, _, _, _, _, _, _, _, _] (pc := 193) dX6_doze_193 (by decide) rfl rfl ?_
                        first | refine r_inc [_, _, _, _, _, _, _, _, _, _, _, _, _, _, _, _, _] (pc := 195) dX6_doze_195 rfl (nI_inc _) (by decide) rfl rfl ?_ | refine r_inc [_, _, _, _, _, _, _, _, _, _, _, _, _, _, _, _, _] (pc := 195) dX6_doze_195 rfl rfl (by decide) rfl rfl ?_
                        refine r_goto (tgt := 143) (pc := 198) dX6_doze_198 (by decide) ?_
                        exact V.bk (ih3 (c + 1) (by omega) (by omega)) rfl (by (repeat (first | exact wk_0 | refine wk_n ?_ | refine wk_s rfl ?_)); done)
                    · have e7 : lN (ptN (nI w) (nI g) p c) * (nI 1).toInt64 = lN (ptN (nI w) (nI g) p (c + 1)) := by rw [ptN, if_neg h163, lN_10, lN_mul]
                      refine r_lconst (v := (nI 1).toInt64) (pc := 166) dX6_doze_166 (by decide) ?_
                      refine r_goto (tgt := 192) (pc := 167) dX6_doze_167 (by decide) ?_
                      refine r_lmul (pc := 192) dX6_doze_192 ?_
                      refine r_isL _ e7 ?_
                      refine r_lst [_, _, _, _, _, _, _, _, _, _, _, _, _, _, _, _, _] (pc := 193) dX6_doze_193 (by decide) rfl rfl ?_
                      first | refine r_inc [_, _, _, _, _, _, _, _, _, _, _, _, _, _, _, _, _] (pc := 195) dX6_doze_195 rfl (nI_inc _) (by decide) rfl rfl ?_ | refine r_inc [_, _, _, _, _, _, _, _, _, _, _, _, _, _, _, _, _] (pc := 195) dX6_doze_195 rfl rfl (by decide) rfl rfl ?_
                      refine r_goto (tgt := 143) (pc := 198) dX6_doze_198 (by decide) ?_
                      exact V.bk (ih3 (c + 1) (by omega) (by omega)) rfl (by (repeat (first | exact wk_0 | refine wk_n ?_ | refine wk_s rfl ?_)); done)
            · have h86 : j < n := Nat.not_le.mp (fun z => h86 ((nI_leI (by omega) (by omega)).mpr z))
              refine r_lload (pc := 89) dX6_doze_89 rfl ?_
              refine r_iload (pc := 91) dX6_doze_91 rfl ?_
              refine r_iload (pc := 93) dX6_doze_93 rfl ?_
              refine iv_X6_162 (c_X6_has _ _ _ _ _) (pc := 95) dX6_doze_95 ⟨Nat.le_of_ble_eq_true rfl, Nat.le_of_ble_eq_true rfl⟩ (Nat.le_of_ble_eq_true rfl) hcs (kI ?_)
              refine t_ifeq_bL (tgt := 107) (J := 108) (a := ?pA98x2) (b := ?pB98x2) (pc := 98) dX6_doze_98 (by decide) (fun k98x2 => ?pT98x2) (fun k98x2 => ?pF98x2) ?pK98x2
              case pT98x2 =>
                refine r_lconst (v := (nI 1).toInt64) (pc := 107) dX6_doze_107 (by decide) ?_
                exact k98x2
              case pF98x2 =>
                refine r_ldc2 (pc := 101) dX6_doze_101 lk_X6_235 ?_
                refine r_goto (tgt := 108) (pc := 104) dX6_doze_104 (by decide) ?_
                exact k98x2
              case pK98x2 =>
                refine r_lmul (pc := 108) dX6_doze_108 ?_
                refine r_isL (lN (blN (nI w) (j + 1))) (blN_s _ _) ?_
                refine r_lst [_, _, _, _, _, _, _, _, _, _, _, _, _, _, _, _, _] (pc := 109) dX6_doze_109 (by decide) rfl rfl ?_
                first | refine r_inc [_, _, _, _, _, _, _, _, _, _, _, _, _, _, _, _, _] (pc := 111) dX6_doze_111 rfl (nI_inc _) (by decide) rfl rfl ?_ | refine r_inc [_, _, _, _, _, _, _, _, _, _, _, _, _, _, _, _, _] (pc := 111) dX6_doze_111 rfl rfl (by decide) rfl rfl ?_
                refine r_goto (tgt := 78) (pc := 114) dX6_doze_114 (by decide) ?_
                exact V.bk (ih (j + 1) (by omega) (by omega)) rfl (by (repeat (first | exact wk_0 | refine wk_n ?_ | refine wk_s rfl ?_)); done)
          · have g50 : ¬ rgG 0 1 t := fun z => h50 (rg_mpr z (by omega))
            refine r_ldc2 (pc := 53) dX6_doze_53 lk_X6_237 ?_
            exact r_lret (pc := 56) dX6_doze_56 rfl (by subst hPP; exact (Or.inl ⟨by first | exact fun z => g5 z.1 | exact fun z => g17 z.2.1 | exact fun z => g29 z.2.2.1 | exact fun z => g42 z.2.2.2.1 | exact fun z => g50 z.2.2.2.2, rfl, rfl⟩))
