def rdI (T : Nat → Int32) (b : Nat) (O : (Nat × Nat) ⊕ (Nat → Int32)) (c p fl : Nat) (R : Nat → Int32) (N : Mem) : Prop :=
  N 16 2 = nI p ∧ N 16 3 = nI fl ∧ c ≤ 7 ∧ ((fl = 0 ∧ p ≤ b ∧ c ≤ 6 ∧ ms 28 c R N ∧ zq c R ∧ (((c = 0 ∨ p ≠ b) ∧ O = msO T b (7 - c) p c R) ∨ (c ≠ 0 ∧ p = b ∧ O = .inr R))) ∨ (fl ≠ 0 ∧ fl ≤ 3 ∧ O = .inl (p, fl)))
theorem rd_0 {T : Nat → Int32} {b : Nat} {Z : Nat → Int32} {N : Mem} (h0 : N 28 0 = nI 0) (h3 : N 28 3 = nI 0) (h4 : N 28 4 = nI 0) (hZ : ∀ j, j < 41 → Z j = nI 0)
    (hl : ∀ pl w, lwO T b = .inl (pl, w) → N 16 2 = nI pl ∧ N 16 3 = nI w) (hr : ∀ w g p2, lwO T b = .inr ((w, g), p2) → N 16 2 = nI p2 ∧ N 16 3 = nI 0 ∧ N 28 1 = nI w ∧ N 28 2 = nI g) : ∃ p fl R, rdI T b (mnO T b Z) 0 p fl R N := by
  cases h : lwO T b with
  | inl e =>
    obtain ⟨pl, w⟩ := e
    obtain ⟨a1, a2⟩ := hl pl w h
    obtain ⟨-, c2, c3⟩ := lw_l h
    exact ⟨pl, w, Z, a1, a2, by omega, Or.inr ⟨c2, c3, mn_l h⟩⟩
  | inr e =>
    obtain ⟨⟨w, g⟩, p2⟩ := e
    obtain ⟨a1, a2, a3, a4⟩ := hr w g p2 h
    obtain ⟨-, -, c3, c4, c5, c6⟩ := lw_r h
    have k : ∀ j, 2 ≤ j → j < 41 → upd (upd Z 0 (nI w)) 1 (nI g) j = nI 0 := fun j hj hj2 => by rw [pk_un (by omega), pk_un (by omega)]; exact hZ j hj2
    refine ⟨p2, 0, upd (upd Z 0 (nI w)) 1 (nI g), a1, a2, by omega, Or.inl ⟨rfl, c6, by omega, ⟨h0, ?_, ?_, ?_, ?_, fun c hc => absurd hc (Nat.not_lt_zero c)⟩, ⟨⟨k 3 (by omega) (by omega), k 4 (by omega) (by omega), fun c hc => ⟨k _ (by omega) (by omega), k _ (by omega) (by omega)⟩⟩, ⟨g, Nat.zero_le _, c5, by rw [pk_us]⟩, k 2 (by omega) (by omega), fun i hi => absurd hi (Nat.not_lt_zero i)⟩, Or.inl ⟨Or.inl rfl, mn_r h⟩⟩⟩
    · rw [pk_un (by omega), pk_us]; exact a3
    · rw [pk_us]; exact a4
    · rw [k 3 (by omega) (by omega)]; exact h3
    · rw [k 4 (by omega) (by omega)]; exact h4
theorem rd_s {T : Nat → Int32} {b c p : Nat} {O : (Nat × Nat) ⊕ (Nat → Int32)} {R : Nat → Int32} {N K : Mem} (hO : O = msO T b (7 - c) p c R) (hc6 : c ≤ 6) (hm : ms 28 c R N) (hz : zq c R)
    (h1 : ∀ pl w, chO T b p c = .inl (pl, w) → w ≠ 0 ∧ w ≤ 3 ∧ K 16 2 = nI pl ∧ K 16 3 = nI w) (h2 : ∀ d p2, chO T b p c = .inr (d, p2) → K 16 2 = nI p2 ∧ K 16 3 = nI 0 ∧ (∀ R, ms 28 c R N → zz R → ms 28 (c + 1) (chR R c d) K)) : ∃ p2 fl2 R2, rdI T b O (c + 1) p2 fl2 R2 K := by
  have e7 : 7 - c = (6 - c) + 1 := by omega
  rw [e7, msO] at hO
  cases hch : chO T b p c with
  | inl e =>
    obtain ⟨pl, w⟩ := e
    rw [hch] at hO
    dsimp only at hO
    obtain ⟨a1, a2, a3, a4⟩ := h1 pl w hch
    exact ⟨pl, w, R, a3, a4, by omega, Or.inr ⟨a1, a2, hO⟩⟩
  | inr e =>
    obtain ⟨d, p2⟩ := e
    rw [hch] at hO
    dsimp only at hO
    obtain ⟨a1, a2, a3⟩ := h2 d p2 hch
    obtain ⟨b1, b2, b3, b4, b5, b6, b7, b8⟩ := ch_r hch
    have hd : d.1 = srt T b p := by rw [b4]
    have hs := srt_le T b p
    refine ⟨p2, 0, chR R c d, a1, a2, by omega, Or.inl ⟨rfl, b8, by omega, a3 R hm hz.1, zq_s hz (by omega) (by omega) (by omega) b5 b6 b7, ?_⟩⟩
    by_cases hb : p2 = b
    · rw [if_pos hb] at hO
      exact Or.inr ⟨by omega, hb, hO⟩
    · rw [if_neg hb] at hO
      exact Or.inl ⟨Or.inr hb, by rw [hO, show 7 - (c + 1) = 6 - c by omega]⟩
set_option maxHeartbeats 4000000 in
set_option maxRecDepth 100000 in
theorem c_X4_readInto (l : Launch) (G : Gx) (M : Mem) (T : Nat → Int32) (hT : M 17 = T) (b : Nat) (hb : M 16 1 = nI b) (hb120 : b ≤ 120) (hby : ∀ i, i < b → ∃ x, x < 256 ∧ T i = nI x) (Z : Nat → Int32) (hZ : ∀ j, j < 41 → Z j = nI 0) : Con l G yX4_readInto cX4_readInto 3 (some .int) 6 155 [.ref (gA G 16), .ref (gA G 28)] M (qE (fun w N5 => ftq M N5 ∧ ((w ≠ 0 ∧ w ≤ 3 ∧ ∃ pl, (mnO T b Z) = .inl (pl, w) ∧ N5 16 2 = nI pl) ∨ (w = 0 ∧ ∃ n R, (mnO T b Z) = .inr R ∧ 0 < n ∧ ms 28 n R N5 ∧ Rg n R)))) := by
  refine Con.ofV [some (.ref (gA G 16)), some (.ref (gA G 28)), none] RX4 (by decide) rfl (Nat.le_of_ble_eq_true rfl) rfl ?_
  intro κ hl hG hk0 hn0
  subst hl hG
  have hcs : κ.k ≤ 0 ∧ κ.n ≤ 0 := ⟨Nat.le_of_eq hk0, Nat.le_of_eq hn0⟩
  refine r_aload_n (pc := 0) dX4_readInto_0 rfl ?_
  refine r_iconst (v := nI 0) (pc := 1) dX4_readInto_1 (by decide) ?_
  refine pf_X4_19 (pc := 2) dX4_readInto_2 rfl ?_
  refine r_aload_n (pc := 5) dX4_readInto_5 rfl ?_
  refine r_iconst (v := nI 0) (pc := 6) dX4_readInto_6 (by decide) ?_
  refine pf_X4_22 (pc := 7) dX4_readInto_7 rfl ?_
  refine r_aload_n (pc := 10) dX4_readInto_10 rfl ?_
  refine iv_X4_25 (c_X2_clear_28 _ _ _) (pc := 11) dX4_readInto_11 rfl ⟨Nat.le_of_ble_eq_true rfl, Nat.le_of_ble_eq_true rfl⟩ (Nat.le_of_ble_eq_true rfl) hcs (kV ?_)
  refine r_aload_n (pc := 14) dX4_readInto_14 rfl ?_
  refine r_aload_n (pc := 15) dX4_readInto_15 rfl ?_
  refine iv_X4_30 (c_X4_readLaw _ _ _ T (by exact hT) b (by exact hb) (by rfl) (by rfl) hb120) (pc := 16) dX4_readInto_16 rfl ⟨Nat.le_of_ble_eq_true rfl, Nat.le_of_ble_eq_true rfl⟩ (Nat.le_of_ble_eq_true rfl) hcs (kqV (fun N16 r16 => ?_))
  obtain ⟨p0, fl0, R0, hI0⟩ : ∃ p0 fl0 R0, rdI T b (mnO T b Z) 0 p0 fl0 R0 N16 := rd_0 (r16.1.2.2.1.trans rfl) (r16.1.2.2.2.1.trans rfl) (r16.1.2.2.2.2.trans rfl) hZ r16.2.1 r16.2.2
  have hfr0 : ftq M N16 := ⟨fun q h1 h2 => (r16.1.1 q h1 (by omega)).trans (by simp only [mset_ne _ _ _ h1, mset_ne _ _ _ (show q ≠ 28 by omega)]), r16.1.2.1.trans rfl⟩
  refine r_iconst (v := nI 0) (pc := 19) dX4_readInto_19 (by decide) ?_
  refine r_st_n [_, _, _] (pc := 20) dX4_readInto_20 (by decide) rfl rfl ?_
  refine V.bk (loopV (fun (σ : Nat × Nat × Nat × (Nat → Int32) × Mem) => V κ cX4_readInto RX4 3 (some .int) (rmx 6 155) (QM κ (qE (fun w N5 => ftq M N5 ∧ ((w ≠ 0 ∧ w ≤ 3 ∧ ∃ pl, (mnO T b Z) = .inl (pl, w) ∧ N5 16 2 = nI pl) ∨ (w = 0 ∧ ∃ n R, (mnO T b Z) = .inr R ∧ 0 < n ∧ ms 28 n R N5 ∧ Rg n R))))) (σ.2.2.2.2) 21 [some (.ref (gA κ.G 16)), some (.ref (gA κ.G 28)), some (.int (nI (σ.1)))] []) (fun (σ : Nat × Nat × Nat × (Nat → Int32) × Mem) => ftq M (σ.2.2.2.2) ∧ rdI T b (mnO T b Z) (σ.1) (σ.2.1) (σ.2.2.1) (σ.2.2.2.1) (σ.2.2.2.2)) (fun (σ : Nat × Nat × Nat × (Nat → Int32) × Mem) => 8 - (σ.1)) ?_ (0, p0, fl0, R0, N16) ⟨hfr0, hI0⟩) rfl (by (repeat (first | exact wk_0 | refine wk_n ?_ | refine wk_s rfl ?_)); done)
  rintro ⟨c, p, fl, R9, N⟩ hI0 ih
  dsimp only at hI0 ih
  obtain ⟨hfr, hI⟩ := hI0
  show V κ cX4_readInto RX4 3 (some .int) (rmx 6 155) (QM κ (qE (fun w N5 => ftq M N5 ∧ ((w ≠ 0 ∧ w ≤ 3 ∧ ∃ pl, (mnO T b Z) = .inl (pl, w) ∧ N5 16 2 = nI pl) ∨ (w = 0 ∧ ∃ n R, (mnO T b Z) = .inr R ∧ 0 < n ∧ ms 28 n R N5 ∧ Rg n R))))) N 21 [some (.ref (gA κ.G 16)), some (.ref (gA κ.G 28)), some (.int (nI c))] []
  have hfl3 : fl ≤ 3 := by rcases hI.2.2.2 with z | z; omega; exact z.2.1
  have hc7 := hI.2.2.1
  refine r_iload_n (pc := 21) dX4_readInto_21 rfl ?_
  refine r_bipush (v := nI 6) (pc := 22) dX4_readInto_22 (by decide) ?_
  refine r_icmp_gt (tgt := 60) (pc := 24) dX4_readInto_24 (by decide) (fun h24 => ?_) (fun h24 => ?_)
  · have hend : fl ≠ 0 ∧ fl ≤ 3 ∧ (mnO T b Z) = .inl (p, fl) := hI.2.2.2.resolve_left (fun z => by have := (nI_ltI (by omega) (by omega)).mp h24; omega)
    refine r_aload_n (pc := 60) dX4_readInto_60 rfl ?_
    refine gf_X4_22 (pc := 61) dX4_readInto_61 rfl ?_
    refine r_is (nI fl) (hI.2.1) ?_
    exact r_iret (pc := 64) dX4_readInto_64 rfl (by first | exact ⟨fl, rfl, hfr, Or.inl ⟨hend.1, hend.2.1, p, hend.2.2, hI.1⟩⟩ | exact ⟨0, by rw [hfl], hfr, Or.inr ⟨rfl, c, R9, hO2, by omega, hmj, zq_Rg hzq hc6⟩⟩)
  · refine r_aload_n (pc := 27) dX4_readInto_27 rfl ?_
    refine gf_X4_22 (pc := 28) dX4_readInto_28 rfl ?_
    refine r_is (nI fl) (hI.2.1) ?_
    refine r_if_ne (tgt := 60) (pc := 31) dX4_readInto_31 (by decide) (fun h31 => ?_) (fun h31 => ?_)
    · have hend : fl ≠ 0 ∧ fl ≤ 3 ∧ (mnO T b Z) = .inl (p, fl) := hI.2.2.2.resolve_left (fun z => h31 (by rw [z.1]; rfl))
      refine r_aload_n (pc := 60) dX4_readInto_60 rfl ?_
      refine gf_X4_22 (pc := 61) dX4_readInto_61 rfl ?_
      refine r_is (nI fl) (hI.2.1) ?_
      exact r_iret (pc := 64) dX4_readInto_64 rfl (by first | exact ⟨fl, rfl, hfr, Or.inl ⟨hend.1, hend.2.1, p, hend.2.2, hI.1⟩⟩ | exact ⟨0, by rw [hfl], hfr, Or.inr ⟨rfl, c, R9, hO2, by omega, hmj, zq_Rg hzq hc6⟩⟩)
    · have hfl : fl = 0 := (nI_eq (by omega) (by omega)).mp (h31.trans nI_0.symm)
      obtain ⟨-, hpb, hc6, hmj, hzq, hrun⟩ := hI.2.2.2.resolve_right (fun z => z.1 hfl)
      refine r_iload_n (pc := 34) dX4_readInto_34 rfl ?_
      refine r_if_eq (tgt := 49) (pc := 35) dX4_readInto_35 (by decide) (fun h35 => ?_) (fun h35 => ?_)
      · have hc0 : c = 0 := (nI_eq (by omega) (by omega)).mp (h35.trans nI_0.symm)
        obtain ⟨hcp, hO⟩ := hrun.resolve_right (by first | exact fun z => z.1 hc0 | exact fun z => hpb3 z.2.1)
        refine r_aload_n (pc := 49) dX4_readInto_49 rfl ?_
        refine r_aload_n (pc := 50) dX4_readInto_50 rfl ?_
        refine iv_X4_34 (c_X4_readOneChair _ _ _ T ((hfr.1 17 (by decide) (by omega)).trans hT) b p c (hfr.2.trans hb) hI.1 (by rw [hI.2.1, hfl]) hpb hb120 hmj.1 hc6 hby) (pc := 51) dX4_readInto_51 rfl ⟨Nat.le_of_ble_eq_true rfl, Nat.le_of_ble_eq_true rfl⟩ (Nat.le_of_ble_eq_true rfl) hcs (kqV (fun N51 r51 => ?_))
        first | refine r_inc [_, _, _] (pc := 54) dX4_readInto_54 rfl (nI_inc _) (by decide) rfl rfl ?_ | refine r_inc [_, _, _] (pc := 54) dX4_readInto_54 rfl rfl (by decide) rfl rfl ?_
        refine r_goto (tgt := 21) (pc := 57) dX4_readInto_57 (by decide) ?_
        obtain ⟨p2, fl2, R2, hI2⟩ := rd_s hO hc6 hmj hzq r51.2.1 r51.2.2
        exact V.bk (ih (c + 1, p2, fl2, R2, N51) ⟨hfr.trans r51.1, hI2⟩ (by dsimp only; omega)) rfl (by (repeat (first | exact wk_0 | refine wk_n ?_ | refine wk_s rfl ?_)); done)
      · have hc0n : c ≠ 0 := fun z => h35 (by rw [z]; rfl)
        refine r_aload_n (pc := 38) dX4_readInto_38 rfl ?_
        refine gf_X4_19 (pc := 39) dX4_readInto_39 rfl ?_
        refine r_is (nI p) (hI.1) ?_
        refine r_aload_n (pc := 42) dX4_readInto_42 rfl ?_
        refine gf_X4_15 (pc := 43) dX4_readInto_43 rfl ?_
        refine r_is (nI b) (hfr.2.trans hb) ?_
        refine r_icmp_ge (tgt := 60) (pc := 46) dX4_readInto_46 (by decide) (fun h46 => ?_) (fun h46 => ?_)
        · have hpb4 : p = b := by have := (nI_leI (by omega) (by omega)).mp h46; omega
          have hO2 : (mnO T b Z) = .inr R9 := (hrun.resolve_left (fun z => z.1.elim hc0n (fun y => y hpb4))).2.2
          refine r_aload_n (pc := 60) dX4_readInto_60 rfl ?_
          refine gf_X4_22 (pc := 61) dX4_readInto_61 rfl ?_
          refine r_is (nI fl) (hI.2.1) ?_
          exact r_iret (pc := 64) dX4_readInto_64 rfl (by first | exact ⟨fl, rfl, hfr, Or.inl ⟨hend.1, hend.2.1, p, hend.2.2, hI.1⟩⟩ | exact ⟨0, by rw [hfl], hfr, Or.inr ⟨rfl, c, R9, hO2, by omega, hmj, zq_Rg hzq hc6⟩⟩)
        · have hpb3 : p ≠ b := fun z => h46 (by rw [z]; exact nI_le (Nat.le_refl _) (by omega))
          obtain ⟨hcp, hO⟩ := hrun.resolve_right (by first | exact fun z => z.1 hc0 | exact fun z => hpb3 z.2.1)
          refine r_aload_n (pc := 49) dX4_readInto_49 rfl ?_
          refine r_aload_n (pc := 50) dX4_readInto_50 rfl ?_
          refine iv_X4_34 (c_X4_readOneChair _ _ _ T ((hfr.1 17 (by decide) (by omega)).trans hT) b p c (hfr.2.trans hb) hI.1 (by rw [hI.2.1, hfl]) hpb hb120 hmj.1 hc6 hby) (pc := 51) dX4_readInto_51 rfl ⟨Nat.le_of_ble_eq_true rfl, Nat.le_of_ble_eq_true rfl⟩ (Nat.le_of_ble_eq_true rfl) hcs (kqV (fun N51 r51 => ?_))
          first | refine r_inc [_, _, _] (pc := 54) dX4_readInto_54 rfl (nI_inc _) (by decide) rfl rfl ?_ | refine r_inc [_, _, _] (pc := 54) dX4_readInto_54 rfl rfl (by decide) rfl rfl ?_
          refine r_goto (tgt := 21) (pc := 57) dX4_readInto_57 (by decide) ?_
          obtain ⟨p2, fl2, R2, hI2⟩ := rd_s hO hc6 hmj hzq r51.2.1 r51.2.2
          exact V.bk (ih (c + 1, p2, fl2, R2, N51) ⟨hfr.trans r51.1, hI2⟩ (by dsimp only; omega)) rfl (by (repeat (first | exact wk_0 | refine wk_n ?_ | refine wk_s rfl ?_)); done)
set_option maxHeartbeats 4000000 in
set_option maxRecDepth 100000 in
theorem c_X5_ministry (l : Launch) (G : Gx) (M : Mem) (T : Nat → Int32) (hT : M 17 = T) (b : Nat) (hb : M 16 1 = nI b) (hb120 : b ≤ 120) (hby : ∀ i, i < b → ∃ x, x < 256 ∧ T i = nI x) (Z : Nat → Int32) (hZ : ∀ j, j < 41 → Z j = nI 0) : Con l G yX5_ministry cX5_ministry 2 (some .int) 7 177 [.ref (gA G 14)] M (fun (v : Option Value) (M' : Mem) => (∃ pl w, (mnO T b Z) = .inl (pl, w) ∧ v = some (Value.int (-1000100 - nI pl)) ∧ M' 16 1 = nI 0 ∧ M' 14 = upd (M 14) 10 (nI w) ∧ ∀ q, q ≠ 14 → q ≠ 16 → q < 28 ∨ 34 < q → M' q = M q) ∨ (∃ n R, (mnO T b Z) = .inr R ∧ 0 < n ∧ v = some (Value.int (nI n)) ∧ Rg n R ∧ ms 18 n R M' ∧ M' 16 1 = nI 0 ∧ M' 40 = upd (M 40) 2 (nI 0) ∧ ∀ q, q ≠ 16 → q ≠ 40 → q < 18 ∨ 24 < q → q < 28 ∨ 38 < q → M' q = M q)) := by
  refine Con.ofV [some (.ref (gA G 14)), none] RX5 (by decide) rfl (Nat.le_of_ble_eq_true rfl) rfl ?_
  intro κ hl hG hk0 hn0
  subst hl hG
  have hcs : κ.k ≤ 0 ∧ κ.n ≤ 0 := ⟨Nat.le_of_eq hk0, Nat.le_of_eq hn0⟩
  refine r_aload_n (pc := 0) dX5_ministry_0 rfl ?_
  refine gf_X5_18 (pc := 1) dX5_ministry_1 rfl ?_
  refine r_aload_n (pc := 4) dX5_ministry_4 rfl ?_
  refine gf_X5_29 (pc := 5) dX5_ministry_5 rfl ?_
  refine iv_X5_119 (c_X4_readInto _ _ _ T hT b hb hb120 hby Z hZ) (pc := 8) dX5_ministry_8 rfl ⟨Nat.le_of_ble_eq_true rfl, Nat.le_of_ble_eq_true rfl⟩ (Nat.le_of_ble_eq_true rfl) hcs (kqE (fun c8 N8 r8 => ?_))
  refine r_st_n [_, _] (pc := 11) dX5_ministry_11 (by decide) rfl rfl ?_
  refine r_aload_n (pc := 12) dX5_ministry_12 rfl ?_
  refine gf_X5_18 (pc := 13) dX5_ministry_13 rfl ?_
  refine r_iconst (v := nI 0) (pc := 16) dX5_ministry_16 (by decide) ?_
  refine pf_X5_115 (pc := 17) dX5_ministry_17 rfl ?_
  refine r_iload_n (pc := 20) dX5_ministry_20 rfl ?_
  refine r_if_eq (tgt := 40) (pc := 21) dX5_ministry_21 (by decide) (fun h21 => ?_) (fun h21 => ?_)
  · have hw : c8 = 0 := by rcases r8.2 with z | z; exact (nI_eq (by omega) (by omega)).mp (h21.trans nI_0.symm); exact z.1
    obtain ⟨-, n, R, hO, hn1, hmr, hRg⟩ := r8.2.resolve_left (fun z => z.1 hw)
    have hn6 := hRg.1
    have hmr2 : ms 28 n R (mset N8 16 1 (nI 0)) := hmr.fr (fun q h1 h2 => mset_ne _ _ _ (by omega))
    refine r_aload_n (pc := 40) dX5_ministry_40 rfl ?_
    refine gf_X5_29 (pc := 41) dX5_ministry_41 rfl ?_
    refine r_aload_n (pc := 44) dX5_ministry_44 rfl ?_
    refine gf_X5_32 (pc := 45) dX5_ministry_45 rfl ?_
    refine iv_X5_130 (c_X2_writeTo_28 _ _ _ _ rfl rfl (by omega)) (pc := 48) dX5_ministry_48 rfl ⟨Nat.le_of_ble_eq_true rfl, Nat.le_of_ble_eq_true rfl⟩ (Nat.le_of_ble_eq_true rfl) hcs (kV ?_)
    refine r_aload_n (pc := 51) dX5_ministry_51 rfl ?_
    refine gf_X5_25 (pc := 52) dX5_ministry_52 rfl ?_
    refine r_aload_n (pc := 55) dX5_ministry_55 rfl ?_
    refine gf_X5_32 (pc := 56) dX5_ministry_56 rfl ?_
    refine iv_X5_134 (c_X2_readFrom_18 _ _ _ _ rfl rfl (by omega)) (pc := 59) dX5_ministry_59 rfl ⟨Nat.le_of_ble_eq_true rfl, Nat.le_of_ble_eq_true rfl⟩ (Nat.le_of_ble_eq_true rfl) hcs (kV ?_)
    have hmr3 : ms 18 n R (RA (setA (mset N8 16 1 (nI 0)) 38 (WA (mset N8 16 1 (nI 0)) 28 (mset N8 16 1 (nI 0) 38))) 18 (setA (mset N8 16 1 (nI 0)) 38 (WA (mset N8 16 1 (nI 0)) 28 (mset N8 16 1 (nI 0) 38)) 38)) := cel_ms (RA_cel _ 18 _) (by rw [setA_eq]; exact cel_cs (WA_cel (mset N8 16 1 (nI 0)) 28 _) hmr2 hn6) hn6
    refine r_aload_n (pc := 62) dX5_ministry_62 rfl ?_
    refine gf_X5_42 (pc := 63) dX5_ministry_63 rfl ?_
    refine iv_X5_137 (c_X1_forget _ _ _) (pc := 66) dX5_ministry_66 rfl ⟨Nat.le_of_ble_eq_true rfl, Nat.le_of_ble_eq_true rfl⟩ (Nat.le_of_ble_eq_true rfl) hcs (kV ?_)
    refine r_aload_n (pc := 69) dX5_ministry_69 rfl ?_
    refine gf_X5_25 (pc := 70) dX5_ministry_70 rfl ?_
    refine gf_X5_140 (pc := 73) dX5_ministry_73 rfl ?_
    refine r_is (nI n) hmr3.1 ?_
    exact r_iret (pc := 76) dX5_ministry_76 rfl (Or.inr ⟨n, R, hO, hn1, rfl, hRg, hmr3.fr (fun q h1 h2 => mset_ne _ _ _ (by omega)), by rw [mset_ne _ _ _ (by decide), RA_fr _ _ _ (by omega), setA_ne _ _ (by decide)]; rfl, by rw [mset_eq, RA_fr _ _ _ (by omega), setA_ne _ _ (by decide), mset_ne _ _ _ (by decide), r8.1.1 40 (by decide) (by omega)], fun q h1 h2 h3 h4 => by rw [mset_ne _ _ _ h2, RA_fr _ _ _ (by omega), setA_ne _ _ (by omega), mset_ne _ _ _ h1]; exact r8.1.1 q h1 (by omega)⟩)
  · obtain ⟨hw0, hw3, pl, hO, hpl⟩ := r8.2.resolve_right (fun z => h21 (by rw [z.1]; rfl))
    refine r_aload_n (pc := 24) dX5_ministry_24 rfl ?_
    refine r_iload_n (pc := 25) dX5_ministry_25 rfl ?_
    refine pf_X5_123 (pc := 26) dX5_ministry_26 rfl ?_
    refine r_ldc (pc := 29) dX5_ministry_29 lk_X5_126 ?_
    refine r_aload_n (pc := 31) dX5_ministry_31 rfl ?_
    refine gf_X5_18 (pc := 32) dX5_ministry_32 rfl ?_
    refine gf_X5_127 (pc := 35) dX5_ministry_35 rfl ?_
    refine r_is (nI pl) hpl ?_
    first | (with_reducible refine r_isubN (pc := 38) dX5_ministry_38 ?hle ?_; case hle => omega) | refine r_isub (pc := 38) dX5_ministry_38 ?_
    exact r_iret (pc := 39) dX5_ministry_39 rfl (Or.inl ⟨pl, c8, hO, rfl, rfl, by rw [mset_eq, mset_ne _ _ _ (by decide), r8.1.1 14 (by decide) (by decide)], fun q h1 h2 h3 => by rw [mset_ne _ _ _ h1, mset_ne _ _ _ h2]; exact r8.1.1 q h2 h3⟩)
