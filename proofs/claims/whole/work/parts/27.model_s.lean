theorem pos_end {N : Mem} {b p : Nat} (h : pos N b p) (hpb : p ≤ b) : N 0 11 = nI 3 ↔ p = b := by
  obtain ⟨h13, ⟨h1, h2, -, -⟩ | ⟨h1, h2, h3, -⟩ | ⟨h1, h2, h3, h4, h5⟩⟩ := h
  · have := dgL_le (T := N 6) hpb
    constructor
    · intro z
      rw [h2] at z
      split at z
      · exact absurd z (by decide)
      · exact absurd z (by decide)
    · intro z; omega
  · exact ⟨fun _ => h2, fun _ => h3⟩
  · constructor
    · intro z
      rw [h3] at z
      split at z
      · exact absurd z (by decide)
      · exact absurd z (by decide)
    · intro z; omega
theorem chR_2 (R : Nat → Int32) {c : Nat} (d : Nat × Nat × Nat × Nat) (h : c < 6) : chR R c d 2 = nI (c + 1) := by
  unfold chR
  rw [pk_un (by omega), pk_un (by omega), pk_un (by omega), pk_us]
theorem chO_c {T : Nat → Int32} {b p c : Nat} {d : Nat × Nat × Nat × Nat} {p2 : Nat} (h : chO T b p c = .inr (d, p2)) : c ≠ 6 := by
  intro z
  unfold chO at h
  by_cases hs : srt T b p = 0
  · rw [if_pos hs] at h
    cases h
  · rw [if_neg hs, if_pos z] at h
    cases h
def mnI (T : Nat → Int32) (b : Nat) (O : (Nat × Nat) ⊕ (Nat → Int32)) (u : Int32) (p c : Nat) (N : Mem) : Prop :=
  (u = nI 1 ∧ pos N b p ∧ p ≤ b ∧ c ≤ 6 ∧ N 7 2 = nI c ∧ (((c = 0 ∨ p ≠ b) ∧ O = msO T b (7 - c) p c (N 7)) ∨ (c ≠ 0 ∧ p = b ∧ O = .inr (N 7)))) ∨ (u = nI 0 ∧ ∃ pl w, O = .inl (pl, w) ∧ N 0 13 = nI pl ∧ N 0 14 = nI w)
theorem mnI_s {T : Nat → Int32} {b : Nat} {O : (Nat × Nat) ⊕ (Nat → Int32)} {p c : Nat} {N K : Mem} (hcp : c = 0 ∨ p ≠ b) (hO : O = msO T b (7 - c) p c (N 7)) (hc6 : c ≤ 6)
    (h1 : ∀ d p2, chO T b p c = .inr (d, p2) → K 7 = chR (N 7) c d ∧ pos K b p2 ∧ p2 ≤ b) (h2 : ∀ pl w, chO T b p c = .inl (pl, w) → K 0 13 = nI pl ∧ K 0 14 = nI w) : ∃ p2 c2, mnI T b O (bI ((chO T b p c).isRight = true)) p2 c2 K ∧ (bI ((chO T b p c).isRight = true) = nI 1 → c2 = c + 1) := by
  have e7 : 7 - c = (6 - c) + 1 := by omega
  rw [e7, msO] at hO
  cases hch : chO T b p c with
  | inl e =>
    obtain ⟨pl, w⟩ := e
    rw [hch] at hO
    dsimp only at hO
    refine ⟨0, 0, Or.inr ⟨bI_f (isR_inl rfl), pl, w, hO, h2 pl w hch⟩, fun z => ?_⟩
    rw [bI_f (isR_inl rfl)] at z
    exact absurd z (by decide)
  | inr e =>
    obtain ⟨d, p2⟩ := e
    rw [hch] at hO
    dsimp only at hO
    have hc := chO_c hch
    obtain ⟨g1, g2, g3⟩ := h1 d p2 hch
    refine ⟨p2, c + 1, Or.inl ⟨bI_t (isR_inr rfl), g2, g3, by omega, by rw [g1]; exact chR_2 _ _ (by omega), ?_⟩, fun _ => rfl⟩
    by_cases hb : p2 = b
    · rw [if_pos hb] at hO
      exact Or.inr ⟨by omega, hb, by rw [hO, g1]⟩
    · rw [if_neg hb] at hO
      exact Or.inl ⟨Or.inr hb, by rw [hO, g1, show 7 - (c + 1) = 6 - c by omega]⟩
def zR (M : Mem) : Nat → Int32 := pt (M 7) (fun _ => nI 0) 41
set_option maxHeartbeats 4000000 in
set_option maxRecDepth 100000 in
theorem c_X6_readMinistry (l : Launch) (G : Gx) (M : Mem) (b : Nat) (hb : M 0 8 = nI b) (hb120 : b ≤ 120) : Con l G yX6_readMinistry cX6_readMinistry 2 (some .boolean) 5 112 [.ref (gA G 0)] M (qI (bI ((mnO (M 6) b (zR M)).isRight = true)) (fun N5 => frP M N5 ∧ (∀ R, mnO (M 6) b (zR M) = .inr R → N5 7 = R) ∧ (∀ pl w, mnO (M 6) b (zR M) = .inl (pl, w) → N5 0 13 = nI pl ∧ N5 0 14 = nI w))) := by
  refine Con.ofV [some (.ref (gA G 0)), none] RX6 (by decide) rfl (Nat.le_of_ble_eq_true rfl) rfl ?_
  intro κ hl hG hk0 hn0
  subst hl hG
  have hcs : κ.k ≤ 0 ∧ κ.n ≤ 0 := ⟨Nat.le_of_eq hk0, Nat.le_of_eq hn0⟩
  refine r_aload_n (pc := 0) dX6_readMinistry_0 rfl ?_
  refine r_iconst (v := nI 0) (pc := 1) dX6_readMinistry_1 (by decide) ?_
  refine pf_X6_85 (pc := 2) dX6_readMinistry_2 rfl ?_
  refine r_iconst (v := nI 0) (pc := 5) dX6_readMinistry_5 (by decide) ?_
  refine r_st_n [_, _] (pc := 6) dX6_readMinistry_6 (by decide) rfl rfl ?_
  refine V.bk (loopV (fun (σ : Nat) => V κ cX6_readMinistry RX6 2 (some .boolean) (rmx 5 112) (QM κ (qI (bI ((mnO (M 6) b (zR M)).isRight = true)) (fun N5 => frP M N5 ∧ (∀ R, mnO (M 6) b (zR M) = .inr R → N5 7 = R) ∧ (∀ pl w, mnO (M 6) b (zR M) = .inl (pl, w) → N5 0 13 = nI pl ∧ N5 0 14 = nI w)))) (setA (mset M 0 10 (nI 0)) 7 (pt (M 7) (fun _ => nI 0) σ)) 7 [some (.ref (gA κ.G 0)), some (.int (nI σ))] []) (fun (σ : Nat) => σ ≤ 41) (fun (σ : Nat) => 41 - σ) ?_ 0 (Nat.zero_le _)) (by rw [pt_0]; exact (setA_id' _ rfl).symm) (by (repeat (first | exact wk_0 | refine wk_n ?_ | refine wk_s rfl ?_)); done)
  rintro j hj ih
  show V κ cX6_readMinistry RX6 2 (some .boolean) (rmx 5 112) (QM κ (qI (bI ((mnO (M 6) b (zR M)).isRight = true)) (fun N5 => frP M N5 ∧ (∀ R, mnO (M 6) b (zR M) = .inr R → N5 7 = R) ∧ (∀ pl w, mnO (M 6) b (zR M) = .inl (pl, w) → N5 0 13 = nI pl ∧ N5 0 14 = nI w)))) (setA (mset M 0 10 (nI 0)) 7 (pt (M 7) (fun _ => nI 0) j)) 7 [some (.ref (gA κ.G 0)), some (.int (nI j))] []
  refine r_iload_n (pc := 7) dX6_readMinistry_7 rfl ?_
  refine r_bipush (v := nI 41) (pc := 8) dX6_readMinistry_8 (by decide) ?_
  refine r_icmp_ge (tgt := 26) (pc := 10) dX6_readMinistry_10 (by decide) (fun h10 => ?_) (fun h10 => ?_)
  · have h10 : 41 ≤ j := (nI_leI (by omega) (by omega)).mp h10
    obtain rfl : 41 = j := by omega
    have f0 : frP M (setA (mset M 0 10 (nI 0)) 7 (zR M)) := ⟨fun q h1 h2 => by rw [setA_ne _ _ h2, mset_ne _ _ _ h1], fun j hj => by rw [setA_ne _ _ (by decide), mset_eq, pk_un (by omega)]⟩
    refine r_aload_n (pc := 26) dX6_readMinistry_26 rfl ?_
    refine iv_X6_114 (c_X6_nextToken _ _ _ 0 b rfl (f0.b8 hb) (Nat.zero_le _) hb120) (pc := 27) dX6_readMinistry_27 rfl ⟨Nat.le_of_ble_eq_true rfl, Nat.le_of_ble_eq_true rfl⟩ (Nat.le_of_ble_eq_true rfl) hcs (kqV (fun N27 r27 => ?_))
    refine r_aload_n (pc := 30) dX6_readMinistry_30 rfl ?_
    refine r_bipush (v := nI 109) (pc := 31) dX6_readMinistry_31 (by decide) ?_
    refine iv_X6_117 (c_X6_takes _ _ _ 0 b 109 r27.2 ((f0.trans r27.1.P).b8 hb) (Nat.zero_le _) hb120 (by decide) (by decide) (by decide)) (pc := 33) dX6_readMinistry_33 rfl ⟨Nat.le_of_ble_eq_true rfl, Nat.le_of_ble_eq_true rfl⟩ (Nat.le_of_ble_eq_true rfl) hcs (kqI (fun N33 r33 => ?_))
    rw [show N27 6 = M 6 from (f0.trans r27.1.P).six] at r33 ⊢
    refine r_ifeq_b (tgt := 64) (pc := 36) dX6_readMinistry_36 (by decide) (fun h36 => ?_) (fun h36 => ?_)
    · have hs : ¬ isS (M 6) b 0 109 := h36
      have e9 : mnO (M 6) b (zR M) = .inl (0, 1) := if_neg hs
      have hfr : frP M N33 := by rw [r33.2 hs]; exact (f0.trans r27.1.P).trans (frP.p14 _ _)
      have hw : N33 0 13 = nI 0 ∧ N33 0 14 = nI 1 := by rw [r33.2 hs]; exact ⟨r27.2.1, rfl⟩
      refine r_iconst (v := nI 0) (pc := 64) dX6_readMinistry_64 (by decide) ?_
      exact r_zret (pc := 65) dX6_readMinistry_65 rfl (by first | rfl | exact bI_narrow) ⟨by rw [bI_f (isR_inl e9)], hfr, fun R z => (by rw [e9] at z; cases z), fun pl w z => (by rw [e9] at z; cases z; exact hw)⟩
    · have hs : isS (M 6) b 0 109 := h36
      obtain ⟨g33, q33⟩ := r33.1 hs
      have f33 := (f0.trans r27.1.P).trans g33.P
      have s33 := f33.six
      have z33 : N33 7 = zR M := by rw [g33.1 7 (by decide), r27.1.1 7 (by decide)]; rfl
      refine r_aload_n (pc := 39) dX6_readMinistry_39 rfl ?_
      refine r_iconst (v := nI 0) (pc := 40) dX6_readMinistry_40 (by decide) ?_
      refine r_iconst (v := nI 5) (pc := 41) dX6_readMinistry_41 (by decide) ?_
      refine r_iconst (v := nI 0) (pc := 42) dX6_readMinistry_42 (by decide) ?_
      refine r_bipush (v := nI 44) (pc := 43) dX6_readMinistry_43 (by decide) ?_
      refine iv_X6_120 (c_X6_takesNumber _ _ _ 1 b 0 5 0 44 q33 (f33.b8 hb) hs.1 hb120 (by omega) (by omega) (by omega) (by decide) (by decide) (by decide)) (pc := 45) dX6_readMinistry_45 rfl ⟨Nat.le_of_ble_eq_true rfl, Nat.le_of_ble_eq_true rfl⟩ (Nat.le_of_ble_eq_true rfl) hcs (kqI (fun N45 r45 => ?_))
      rw [s33] at r45 ⊢
      refine r_ifeq_b (tgt := 64) (pc := 48) dX6_readMinistry_48 (by decide) (fun h48 => ?_) (fun h48 => ?_)
      · obtain ⟨⟨pl, w⟩, en⟩ := isR_f h48
        have e9 : mnO (M 6) b (zR M) = .inl (pl, w) := by rw [mnO, if_pos hs, en]
        have hw := r45.2.2 pl w en
        have hfr := f33.trans r45.1
        refine r_iconst (v := nI 0) (pc := 64) dX6_readMinistry_64 (by decide) ?_
        exact r_zret (pc := 65) dX6_readMinistry_65 rfl (by first | rfl | exact bI_narrow) ⟨by rw [bI_f (isR_inl e9)], hfr, fun R z => (by rw [e9] at z; cases z), fun pl w z => (by rw [e9] at z; cases z; exact hw)⟩
      · obtain ⟨⟨w1, p1⟩, en⟩ := isR_t h48
        obtain ⟨e7, q1, l1⟩ := r45.2.1 w1 p1 en
        have f45 := f33.trans r45.1
        have s45 := f45.six
        refine r_aload_n (pc := 51) dX6_readMinistry_51 rfl ?_
        refine r_iconst (v := nI 1) (pc := 52) dX6_readMinistry_52 (by decide) ?_
        refine r_bipush (v := nI 9) (pc := 53) dX6_readMinistry_53 (by decide) ?_
        refine r_iconst (v := nI 1) (pc := 55) dX6_readMinistry_55 (by decide) ?_
        refine r_bipush (v := nI 59) (pc := 56) dX6_readMinistry_56 (by decide) ?_
        refine iv_X6_120 (c_X6_takesNumber _ _ _ p1 b 1 9 1 59 q1 (f45.b8 hb) l1 hb120 (by omega) (by omega) (by omega) (by decide) (by decide) (by decide)) (pc := 58) dX6_readMinistry_58 rfl ⟨Nat.le_of_ble_eq_true rfl, Nat.le_of_ble_eq_true rfl⟩ (Nat.le_of_ble_eq_true rfl) hcs (kqI (fun N58 r58 => ?_))
        rw [s45] at r58 ⊢
        refine r_ifne_b (tgt := 66) (pc := 61) dX6_readMinistry_61 (by decide) (fun h61 => ?_) (fun h61 => ?_)
        · obtain ⟨⟨g1, p2⟩, en2⟩ := isR_t h61
          obtain ⟨e72, q2, l2⟩ := r58.2.1 g1 p2 en2
          have f58 := f45.trans r58.1
          have h7 : N58 7 = upd (upd (zR M) 0 (nI w1)) 1 (nI g1) := by rw [e72, e7, z33]
          have hI1 : mnI (M 6) b (mnO (M 6) b (zR M)) (nI 1) p2 0 N58 := Or.inl ⟨rfl, q2, l2, by omega, by rw [h7, pk_un (by decide), pk_un (by decide)]; rfl, Or.inl ⟨Or.inl rfl, by rw [h7, mnO, if_pos hs, en]; dsimp only; rw [en2]⟩⟩
          refine r_iconst (v := nI 1) (pc := 66) dX6_readMinistry_66 (by decide) ?_
          refine r_st_n [_, _] (pc := 67) dX6_readMinistry_67 (by decide) rfl rfl ?_
          refine V.bk (loopV (fun (σ : Int32 × Nat × Nat × Mem) => V κ cX6_readMinistry RX6 2 (some .boolean) (rmx 5 112) (QM κ (qI (bI ((mnO (M 6) b (zR M)).isRight = true)) (fun N5 => frP M N5 ∧ (∀ R, mnO (M 6) b (zR M) = .inr R → N5 7 = R) ∧ (∀ pl w, mnO (M 6) b (zR M) = .inl (pl, w) → N5 0 13 = nI pl ∧ N5 0 14 = nI w)))) (σ.2.2.2) 68 [some (.ref (gA κ.G 0)), some (.int (σ.1))] []) (fun (σ : Int32 × Nat × Nat × Mem) => frP M (σ.2.2.2) ∧ mnI (M 6) b (mnO (M 6) b (zR M)) (σ.1) (σ.2.1) (σ.2.2.1) (σ.2.2.2)) (fun (σ : Int32 × Nat × Nat × Mem) => if (σ.1) = nI 0 then 0 else 8 - (σ.2.2.1)) ?_ (nI 1, p2, 0, N58) ⟨f58, hI1⟩) rfl (by (repeat (first | exact wk_0 | refine wk_n ?_ | refine wk_s rfl ?_)); done)
          rintro ⟨u, p, c, N⟩ hI0 ih
          dsimp only at hI0 ih
          obtain ⟨hf, hI⟩ := hI0
          show V κ cX6_readMinistry RX6 2 (some .boolean) (rmx 5 112) (QM κ (qI (bI ((mnO (M 6) b (zR M)).isRight = true)) (fun N5 => frP M N5 ∧ (∀ R, mnO (M 6) b (zR M) = .inr R → N5 7 = R) ∧ (∀ pl w, mnO (M 6) b (zR M) = .inl (pl, w) → N5 0 13 = nI pl ∧ N5 0 14 = nI w)))) N 68 [some (.ref (gA κ.G 0)), some (.int u)] []
          refine r_iload_n (pc := 68) dX6_readMinistry_68 rfl ?_
          refine r_if_eq (tgt := 97) (pc := 69) dX6_readMinistry_69 (by decide) (fun h69 => ?_) (fun h69 => ?_)
          · have hu : u = nI 0 := h69
            subst hu
            obtain ⟨-, pl, w, e9, hw⟩ := hI.resolve_left (fun z => absurd z.1 (by decide))
            refine r_iload_n (pc := 97) dX6_readMinistry_97 rfl ?_
            exact r_zret (pc := 98) dX6_readMinistry_98 rfl (by first | rfl | exact bI_narrow) (by
                  first
                    | exact ⟨by rw [bI_f (isR_inl e9)], hf, fun R z => (by rw [e9] at z; cases z), fun pl w z => (by rw [e9] at z; cases z; exact hw)⟩
                    | exact ⟨by rw [bI_t (isR_inr e9)], hf, fun R z => (by rw [e9] at z; cases z; rfl), fun pl w z => (by rw [e9] at z; cases z)⟩)
          · have hu : ¬ u = nI 0 := h69
            obtain ⟨hu1, hps, hpb, hc6, h72, hI⟩ := hI.resolve_right (fun z => hu z.1)
            have s6 := hf.six
            refine r_aload_n (pc := 72) dX6_readMinistry_72 rfl ?_
            refine gf_X6_91 (pc := 73) dX6_readMinistry_73 rfl ?_
            refine r_iconst (v := nI 3) (pc := 76) dX6_readMinistry_76 (by decide) ?_
            refine r_icmp_ne (tgt := 89) (pc := 77) dX6_readMinistry_77 (by decide) (fun h77 => ?_) (fun h77 => ?_)
            · have hp3 : p ≠ b := fun z => h77 ((pos_end hps hpb).mpr z)
              obtain ⟨hcp, hO⟩ := hI.resolve_right (by first | exact fun z => hp3 z.2.1 | exact fun z => z.1 hc0)
              refine r_aload_n (pc := 89) dX6_readMinistry_89 rfl ?_
              refine iv_X6_124 (c_X6_readChair _ _ _ p b c hps (hf.b8 hb) hpb hb120 h72 hc6) (pc := 90) dX6_readMinistry_90 rfl ⟨Nat.le_of_ble_eq_true rfl, Nat.le_of_ble_eq_true rfl⟩ (Nat.le_of_ble_eq_true rfl) hcs (kqI (fun N90 r90 => ?_))
              rw [s6] at r90 ⊢
              refine r_st_n [_, _] (pc := 93) dX6_readMinistry_93 (by decide) rfl rfl ?_
              refine r_goto (tgt := 68) (pc := 94) dX6_readMinistry_94 (by decide) ?_
              obtain ⟨p2, c2, hI2, hc2⟩ := mnI_s hcp hO hc6 r90.2.1 r90.2.2
              refine V.bk (ih (bI ((chO (M 6) b p c).isRight = true), p2, c2, N90) ⟨hf.trans r90.1, hI2⟩ ?_) rfl (by (repeat (first | exact wk_0 | refine wk_n ?_ | refine wk_s rfl ?_)); done)
              show (if bI ((chO (M 6) b p c).isRight = true) = nI 0 then 0 else 8 - c2) < (if u = nI 0 then 0 else 8 - c)
              rw [if_neg hu]
              by_cases hz : bI ((chO (M 6) b p c).isRight = true) = nI 0
              · rw [if_pos hz]; omega
              · rw [if_neg hz]
                have := hc2 (by by_cases y : (chO (M 6) b p c).isRight = true; exact bI_t y; exact absurd (bI_f y) hz)
                omega
            · have hp3 : p = b := (pos_end hps hpb).mp h77
              refine r_aload_n (pc := 80) dX6_readMinistry_80 rfl ?_
              refine gf_X6_28 (pc := 81) dX6_readMinistry_81 rfl ?_
              refine r_iconst (v := nI 2) (pc := 84) dX6_readMinistry_84 (by decide) ?_
              refine r_iald (pc := 85) dX6_readMinistry_85 rfl (show _ < 41 by omega) ?_
              refine r_if_ne (tgt := 97) (pc := 86) dX6_readMinistry_86 (by decide) (fun h86 => ?_) (fun h86 => ?_)
              · have hc0 : c ≠ 0 := fun z => h86 (by rw [h72, z]; rfl)
                obtain ⟨-, -, e9⟩ := hI.resolve_left (fun z => z.1.elim hc0 (fun y => y hp3))
                subst hu1
                refine r_iload_n (pc := 97) dX6_readMinistry_97 rfl ?_
                exact r_zret (pc := 98) dX6_readMinistry_98 rfl (by first | rfl | exact bI_narrow) (by
                      first
                        | exact ⟨by rw [bI_f (isR_inl e9)], hf, fun R z => (by rw [e9] at z; cases z), fun pl w z => (by rw [e9] at z; cases z; exact hw)⟩
                        | exact ⟨by rw [bI_t (isR_inr e9)], hf, fun R z => (by rw [e9] at z; cases z; rfl), fun pl w z => (by rw [e9] at z; cases z)⟩)
              · have hc0 : c = 0 := (nI_eq (by omega) (by omega)).mp ((h72.symm.trans h86).trans nI_0.symm)
                obtain ⟨hcp, hO⟩ := hI.resolve_right (by first | exact fun z => hp3 z.2.1 | exact fun z => z.1 hc0)
                refine r_aload_n (pc := 89) dX6_readMinistry_89 rfl ?_
                refine iv_X6_124 (c_X6_readChair _ _ _ p b c hps (hf.b8 hb) hpb hb120 h72 hc6) (pc := 90) dX6_readMinistry_90 rfl ⟨Nat.le_of_ble_eq_true rfl, Nat.le_of_ble_eq_true rfl⟩ (Nat.le_of_ble_eq_true rfl) hcs (kqI (fun N90 r90 => ?_))
                rw [s6] at r90 ⊢
                refine r_st_n [_, _] (pc := 93) dX6_readMinistry_93 (by decide) rfl rfl ?_
                refine r_goto (tgt := 68) (pc := 94) dX6_readMinistry_94 (by decide) ?_
                obtain ⟨p2, c2, hI2, hc2⟩ := mnI_s hcp hO hc6 r90.2.1 r90.2.2
                refine V.bk (ih (bI ((chO (M 6) b p c).isRight = true), p2, c2, N90) ⟨hf.trans r90.1, hI2⟩ ?_) rfl (by (repeat (first | exact wk_0 | refine wk_n ?_ | refine wk_s rfl ?_)); done)
                show (if bI ((chO (M 6) b p c).isRight = true) = nI 0 then 0 else 8 - c2) < (if u = nI 0 then 0 else 8 - c)
                rw [if_neg hu]
                by_cases hz : bI ((chO (M 6) b p c).isRight = true) = nI 0
                · rw [if_pos hz]; omega
                · rw [if_neg hz]
                  have := hc2 (by by_cases y : (chO (M 6) b p c).isRight = true; exact bI_t y; exact absurd (bI_f y) hz)
                  omega
        · obtain ⟨⟨pl, w⟩, en2⟩ := isR_f h61
          have e9 : mnO (M 6) b (zR M) = .inl (pl, w) := by rw [mnO, if_pos hs, en]; dsimp only; rw [en2]
          have hw := r58.2.2 pl w en2
          have hfr := f45.trans r58.1
          refine r_iconst (v := nI 0) (pc := 64) dX6_readMinistry_64 (by decide) ?_
          exact r_zret (pc := 65) dX6_readMinistry_65 rfl (by first | rfl | exact bI_narrow) ⟨by rw [bI_f (isR_inl e9)], hfr, fun R z => (by rw [e9] at z; cases z), fun pl w z => (by rw [e9] at z; cases z; exact hw)⟩
  · have h10 : j < 41 := Nat.not_le.mp (fun z => h10 ((nI_leI (by omega) (by omega)).mpr z))
    refine r_aload_n (pc := 13) dX6_readMinistry_13 rfl ?_
    refine gf_X6_28 (pc := 14) dX6_readMinistry_14 rfl ?_
    refine r_iload_n (pc := 17) dX6_readMinistry_17 rfl ?_
    refine r_iconst (v := nI 0) (pc := 18) dX6_readMinistry_18 (by decide) ?_
    refine r_iast (pc := 19) dX6_readMinistry_19 rfl (show _ < 41 by omega) ?_
    first | refine r_inc [_, _] (pc := 20) dX6_readMinistry_20 rfl (nI_inc _) (by decide) rfl rfl ?_ | refine r_inc [_, _] (pc := 20) dX6_readMinistry_20 rfl rfl (by decide) rfl rfl ?_
    refine r_goto (tgt := 7) (pc := 23) dX6_readMinistry_23 (by decide) ?_
    exact V.bk (ih (j + 1) (by omega) (by omega)) (by rw [mset_setA, pt_s]) (by (repeat (first | exact wk_0 | refine wk_n ?_ | refine wk_s rfl ?_)); done)
set_option maxHeartbeats 4000000 in
set_option maxRecDepth 100000 in
theorem c_X6_ministry (l : Launch) (G : Gx) (M : Mem) (b : Nat) (hb : M 0 8 = nI b) (hb120 : b ≤ 120) : Con l G yX6_ministry cX6_ministry 3 (some .int) 6 133 [.ref (gA G 0)] M (fun (v : Option Value) (M' : Mem) => (∃ pl w, mnO (M 6) b (zR M) = .inl (pl, w) ∧ v = some (Value.int (-1000100 - nI pl)) ∧ frP (mset (mset M 0 8 (nI 0)) 0 9 (nI w)) M') ∨ (∃ R, mnO (M 6) b (zR M) = .inr R ∧ v = some (Value.int (R 2)) ∧ frP (setA (mset (mset (mset M 0 8 (nI 0)) 0 4 (nI 1)) 0 19 (nI 0)) 4 (pt (M 4) R 41)) M')) := by
  refine Con.ofV [some (.ref (gA G 0)), none, none] RX6 (by decide) rfl (Nat.le_of_ble_eq_true rfl) rfl ?_
  intro κ hl hG hk0 hn0
  subst hl hG
  have hcs : κ.k ≤ 0 ∧ κ.n ≤ 0 := ⟨Nat.le_of_eq hk0, Nat.le_of_eq hn0⟩
  refine r_aload_n (pc := 0) dX6_ministry_0 rfl ?_
  refine iv_X6_128 (c_X6_readMinistry _ _ _ b hb hb120) (pc := 1) dX6_ministry_1 rfl ⟨Nat.le_of_ble_eq_true rfl, Nat.le_of_ble_eq_true rfl⟩ (Nat.le_of_ble_eq_true rfl) hcs (kqI (fun N1 r1 => ?_))
  refine r_st_n [_, _, _] (pc := 4) dX6_ministry_4 (by decide) rfl rfl ?_
  refine r_aload_n (pc := 5) dX6_ministry_5 rfl ?_
  refine r_iconst (v := nI 0) (pc := 6) dX6_ministry_6 (by decide) ?_
  refine pf_X6_81 (pc := 7) dX6_ministry_7 rfl ?_
  refine r_iload_n (pc := 10) dX6_ministry_10 rfl ?_
  refine r_ifne_b (tgt := 30) (pc := 11) dX6_ministry_11 (by decide) (fun h11 => ?_) (fun h11 => ?_)
  · have hs : (mnO (M 6) b (zR M)).isRight = true := h11
    obtain ⟨R, e9⟩ := isR_t hs
    have e7 := r1.2.1 R e9
    have k7 : N1 7 = R := e7
    have k4 : N1 4 = M 4 := r1.1.1 4 (by decide) (by decide)
    refine r_iconst (v := nI 0) (pc := 30) dX6_ministry_30 (by decide) ?_
    refine r_st_n [_, _, _] (pc := 31) dX6_ministry_31 (by decide) rfl rfl ?_
    refine V.bk (loopV (fun (σ : Nat) => V κ cX6_ministry RX6 3 (some .int) (rmx 6 133) (QM κ (fun (v : Option Value) (M' : Mem) => (∃ pl w, mnO (M 6) b (zR M) = .inl (pl, w) ∧ v = some (Value.int (-1000100 - nI pl)) ∧ frP (mset (mset M 0 8 (nI 0)) 0 9 (nI w)) M') ∨ (∃ R, mnO (M 6) b (zR M) = .inr R ∧ v = some (Value.int (R 2)) ∧ frP (setA (mset (mset (mset M 0 8 (nI 0)) 0 4 (nI 1)) 0 19 (nI 0)) 4 (pt (M 4) R 41)) M'))) (setA (mset N1 0 8 (nI 0)) 4 (pt (M 4) R σ)) 32 [some (.ref (gA κ.G 0)), none, some (.int (nI σ))] []) (fun (σ : Nat) => σ ≤ 41) (fun (σ : Nat) => 41 - σ) ?_ 0 (Nat.zero_le _)) (by rw [pt_0]; exact (setA_id' (mset N1 0 8 (nI 0)) k4.symm).symm) (by (repeat (first | exact wk_0 | refine wk_n ?_ | refine wk_s rfl ?_)); done)
    rintro j hj ih
    show V κ cX6_ministry RX6 3 (some .int) (rmx 6 133) (QM κ (fun (v : Option Value) (M' : Mem) => (∃ pl w, mnO (M 6) b (zR M) = .inl (pl, w) ∧ v = some (Value.int (-1000100 - nI pl)) ∧ frP (mset (mset M 0 8 (nI 0)) 0 9 (nI w)) M') ∨ (∃ R, mnO (M 6) b (zR M) = .inr R ∧ v = some (Value.int (R 2)) ∧ frP (setA (mset (mset (mset M 0 8 (nI 0)) 0 4 (nI 1)) 0 19 (nI 0)) 4 (pt (M 4) R 41)) M'))) (setA (mset N1 0 8 (nI 0)) 4 (pt (M 4) R j)) 32 [some (.ref (gA κ.G 0)), none, some (.int (nI j))] []
    refine r_iload_n (pc := 32) dX6_ministry_32 rfl ?_
    refine r_bipush (v := nI 41) (pc := 33) dX6_ministry_33 (by decide) ?_
    refine r_icmp_ge (tgt := 56) (pc := 35) dX6_ministry_35 (by decide) (fun h35 => ?_) (fun h35 => ?_)
    · have h35 : 41 ≤ j := (nI_leI (by omega) (by omega)).mp h35
      obtain rfl : 41 = j := by omega
      refine r_aload_n (pc := 56) dX6_ministry_56 rfl ?_
      refine r_iconst (v := nI 1) (pc := 57) dX6_ministry_57 (by decide) ?_
      refine pf_X6_135 (pc := 58) dX6_ministry_58 rfl ?_
      refine r_aload_n (pc := 61) dX6_ministry_61 rfl ?_
      refine r_iconst (v := nI 0) (pc := 62) dX6_ministry_62 (by decide) ?_
      refine pf_X6_139 (pc := 63) dX6_ministry_63 rfl ?_
      refine r_aload_n (pc := 66) dX6_ministry_66 rfl ?_
      refine gf_X6_19 (pc := 67) dX6_ministry_67 rfl ?_
      refine r_iconst (v := nI 2) (pc := 70) dX6_ministry_70 (by decide) ?_
      refine r_iald (pc := 71) dX6_ministry_71 rfl (show _ < 41 by omega) ?_
      exact r_iret (pc := 72) dX6_ministry_72 rfl (Or.inr ⟨R, e9, rfl, (by refine ⟨fun q h1 h2 => ?_, fun j hj => ?_⟩; by_cases h4 : q = 4; subst h4; rfl; rw [mset_ne _ _ _ h1, mset_ne _ _ _ h1, setA_ne _ _ h4, mset_ne _ _ _ h1, setA_ne _ _ h4, mset_ne _ _ _ h1, mset_ne _ _ _ h1, mset_ne _ _ _ h1]; exact r1.1.1 q h1 h2; have := r1.1.2 j hj; show upd (upd (upd (N1 0) 8 _) 4 _) 19 _ j = upd (upd (upd (M 0) 8 _) 4 _) 19 _ j; unfold upd; rw [this])⟩)
    · have h35 : j < 41 := Nat.not_le.mp (fun z => h35 ((nI_leI (by omega) (by omega)).mpr z))
      refine r_aload_n (pc := 38) dX6_ministry_38 rfl ?_
      refine gf_X6_19 (pc := 39) dX6_ministry_39 rfl ?_
      refine r_iload_n (pc := 42) dX6_ministry_42 rfl ?_
      refine r_aload_n (pc := 43) dX6_ministry_43 rfl ?_
      refine gf_X6_28 (pc := 44) dX6_ministry_44 rfl ?_
      refine r_iload_n (pc := 47) dX6_ministry_47 rfl ?_
      refine r_iald (pc := 48) dX6_ministry_48 rfl (show _ < 41 by omega) ?_
      refine r_is (R j) (by show N1 7 j = _; rw [k7]) ?_
      refine r_iast (pc := 49) dX6_ministry_49 rfl (show _ < 41 by omega) ?_
      first | refine r_inc [_, _, _] (pc := 50) dX6_ministry_50 rfl (nI_inc _) (by decide) rfl rfl ?_ | refine r_inc [_, _, _] (pc := 50) dX6_ministry_50 rfl rfl (by decide) rfl rfl ?_
      refine r_goto (tgt := 32) (pc := 53) dX6_ministry_53 (by decide) ?_
      exact V.bk (ih (j + 1) (by omega) (by omega)) (by rw [mset_setA, pt_s]) (by (repeat (first | exact wk_0 | refine wk_n ?_ | refine wk_s rfl ?_)); done)
  · have hs : ¬ (mnO (M 6) b (zR M)).isRight = true := h11
    obtain ⟨⟨pl, w⟩, e9⟩ := isR_f hs
    obtain ⟨w1, w2⟩ := r1.2.2 pl w e9
    refine r_aload_n (pc := 14) dX6_ministry_14 rfl ?_
    refine r_aload_n (pc := 15) dX6_ministry_15 rfl ?_
    refine gf_X6_105 (pc := 16) dX6_ministry_16 rfl ?_
    refine r_is (nI w) w2 ?_
    refine pf_X6_131 (pc := 19) dX6_ministry_19 rfl ?_
    refine r_ldc (pc := 22) dX6_ministry_22 lk_X6_134 ?_
    refine r_aload_n (pc := 24) dX6_ministry_24 rfl ?_
    refine gf_X6_88 (pc := 25) dX6_ministry_25 rfl ?_
    refine r_is (nI pl) w1 ?_
    first | (with_reducible refine r_isubN (pc := 28) dX6_ministry_28 ?hle ?_; case hle => omega) | refine r_isub (pc := 28) dX6_ministry_28 ?_
    exact r_iret (pc := 29) dX6_ministry_29 rfl (Or.inl ⟨pl, w, e9, rfl, (by refine ⟨fun q h1 h2 => ?_, fun j hj => ?_⟩; rw [mset_ne _ _ _ h1, mset_ne _ _ _ h1, mset_ne _ _ _ h1, mset_ne _ _ _ h1]; exact r1.1.1 q h1 h2; have := r1.1.2 j hj; show upd (upd (N1 0) 8 _) 9 _ j = upd (upd (M 0) 8 _) 9 _ j; unfold upd; rw [this])⟩)
