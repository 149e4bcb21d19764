def srt (T : Nat → Int32) (b p : Nat) : Nat := if isS T b p 112 then 1 else if isS T b p 114 then 2 else if isS T b p 99 then 3 else if isS T b p 111 then 4 else if isS T b p 116 then 5 else 0
theorem srt_s {T : Nat → Int32} {b p : Nat} (h : srt T b p ≠ 0) : ∃ c, c < 128 ∧ (c < 48 ∨ 57 < c) ∧ isS T b p c := by
  unfold srt at h
  split at h
  · exact ⟨112, by omega, by omega, by assumption⟩
  · split at h
    · exact ⟨114, by omega, by omega, by assumption⟩
    · split at h
      · exact ⟨99, by omega, by omega, by assumption⟩
      · split at h
        · exact ⟨111, by omega, by omega, by assumption⟩
        · split at h
          · exact ⟨116, by omega, by omega, by assumption⟩
          · exact absurd rfl h
theorem srt_le (T : Nat → Int32) (b p : Nat) : srt T b p ≤ 5 := by
  unfold srt
  split
  · omega
  · split
    · omega
    · split
      · omega
      · split
        · omega
        · split <;> omega
/-- a chair: .inl (place, fault), or its sort, leg, saw, grudge and the place behind -/
def chO (T : Nat → Int32) (b p c : Nat) : (Nat × Nat) ⊕ ((Nat × Nat × Nat × Nat) × Nat) :=
  if srt T b p = 0 then .inl (p, 1) else if c = 6 then .inl (p, 3) else match nmO T b (p + 1) 0 60 44 with
  | .inl e => .inl e
  | .inr (lg, p1) => match nmO T b p1 0 9 44 with
    | .inl e => .inl e
    | .inr (sw, p2) => match nmO T b p2 0 3 59 with
      | .inl e => .inl e
      | .inr (gr, p3) => .inr ((srt T b p, lg, sw, gr), p3)
def chR (R : Nat → Int32) (c : Nat) (d : Nat × Nat × Nat × Nat) : Nat → Int32 := upd (upd (upd (upd (upd R (5 + c) (nI d.1)) 2 (nI (c + 1))) (11 + c) (nI d.2.1)) (17 + c) (nI d.2.2.1)) (23 + c) (nI d.2.2.2)
/-- chairs from p on, c of them read, at most f more -/
def msO (T : Nat → Int32) (b : Nat) : Nat → Nat → Nat → (Nat → Int32) → (Nat × Nat) ⊕ (Nat → Int32)
  | 0, _, _, _ => .inl (0, 0)
  | f + 1, p, c, R => match chO T b p c with
    | .inl e => .inl e
    | .inr (d, p2) => if p2 = b then .inr (chR R c d) else msO T b f p2 (c + 1) (chR R c d)
/-- the whole text -/
def mnO (T : Nat → Int32) (b : Nat) (Z : Nat → Int32) : (Nat × Nat) ⊕ (Nat → Int32) :=
  if isS T b 0 109 then (match nmO T b 1 0 5 44 with
    | .inl e => .inl e
    | .inr (w, p1) => match nmO T b p1 1 9 59 with
      | .inl e => .inl e
      | .inr (g, p2) => msO T b 7 p2 0 (upd (upd Z 0 (nI w)) 1 (nI g))) else .inl (0, 1)
theorem frP.six {M N : Mem} (h : frP M N) : N 6 = M 6 := h.1 6 (by decide) (by decide)
theorem frP.b8 {M N : Mem} (h : frP M N) {b : Nat} (hb : M 0 8 = nI b) : N 0 8 = nI b := (h.2 8 (by omega)).trans hb
theorem isR_inl {α β : Type} {o : α ⊕ β} {e : α} (h : o = .inl e) : ¬ o.isRight = true := by rw [h]; intro z; cases z
theorem isR_inr {α β : Type} {o : α ⊕ β} {e : β} (h : o = .inr e) : o.isRight = true := by rw [h]; rfl
theorem isR_t {α β : Type} {o : α ⊕ β} (h : o.isRight = true) : ∃ e, o = .inr e := by
  cases o with
  | inl a => cases h
  | inr a => exact ⟨a, rfl⟩
theorem isR_f {α β : Type} {o : α ⊕ β} (h : ¬ o.isRight = true) : ∃ e, o = .inl e := by
  cases o with
  | inl a => exact ⟨a, rfl⟩
  | inr a => exact absurd rfl h
set_option maxHeartbeats 4000000 in
set_option maxRecDepth 100000 in
theorem c_X6_readChair (l : Launch) (G : Gx) (M : Mem) (p b c : Nat) (hpos : pos M b p) (hb : M 0 8 = nI b) (hpb : p ≤ b) (hb120 : b ≤ 120) (hc : M 7 2 = nI c) (hc6 : c ≤ 6) : Con l G yX6_readChair cX6_readChair 3 (some .boolean) 4 90 [.ref (gA G 0)] M (qI (bI ((chO (M 6) b p c).isRight = true)) (fun N5 => frP M N5 ∧ (∀ d p2, chO (M 6) b p c = .inr (d, p2) → N5 7 = chR (M 7) c d ∧ pos N5 b p2 ∧ p2 ≤ b) ∧ (∀ pl w, chO (M 6) b p c = .inl (pl, w) → N5 0 13 = nI pl ∧ N5 0 14 = nI w))) := by
  refine Con.ofV [some (.ref (gA G 0)), none, none] RX6 (by decide) rfl (Nat.le_of_ble_eq_true rfl) rfl ?_
  intro κ hl hG hk0 hn0
  subst hl hG
  have hcs : κ.k ≤ 0 ∧ κ.n ≤ 0 := ⟨Nat.le_of_eq hk0, Nat.le_of_eq hn0⟩
  have hsl := srt_le (M 6) b p
  have J66 : ∀ u : Int32, u = nI (srt (M 6) b p) → V κ cX6_readChair RX6 3 (some .boolean) (rmx 4 90) (QM κ (qI (bI ((chO (M 6) b p c).isRight = true)) (fun N5 => frP M N5 ∧ (∀ d p2, chO (M 6) b p c = .inr (d, p2) → N5 7 = chR (M 7) c d ∧ pos N5 b p2 ∧ p2 ≤ b) ∧ (∀ pl w, chO (M 6) b p c = .inl (pl, w) → N5 0 13 = nI pl ∧ N5 0 14 = nI w)))) M 66 [some (.ref (gA κ.G 0)), none, none] [.int u] := by
    rintro _ rfl
    refine r_st_n [_, _, _] (pc := 66) dX6_readChair_66 (by decide) rfl rfl ?_
    refine r_aload_n (pc := 67) dX6_readChair_67 rfl ?_
    refine gf_X6_28 (pc := 68) dX6_readChair_68 rfl ?_
    refine r_iconst (v := nI 2) (pc := 71) dX6_readChair_71 (by decide) ?_
    refine r_iald (pc := 72) dX6_readChair_72 rfl (show _ < 41 by omega) ?_
    refine r_is (nI c) hc ?_
    refine r_st_n [_, _, _] (pc := 73) dX6_readChair_73 (by decide) rfl rfl ?_
    refine r_iload_n (pc := 74) dX6_readChair_74 rfl ?_
    refine r_if_eq (tgt := 84) (pc := 75) dX6_readChair_75 (by decide) (fun h75 => ?_) (fun h75 => ?_)
    · have h75n : srt (M 6) b p = 0 := (nI_eq (by omega) (by omega)).mp (h75.trans nI_0.symm)
      have e9 : chO (M 6) b p c = .inl (p, 1) := if_pos h75n
      have e8 : (if nI (srt (M 6) b p) = 0 then nI 1 else nI 3) = nI 1 := if_pos h75
      refine r_aload_n (pc := 84) dX6_readChair_84 rfl ?_
      refine r_iload_n (pc := 85) dX6_readChair_85 rfl ?_
      refine t_if_ne (tgt := 93) (J := 94) (a := ?pA86x1) (b := ?pB86x1) (pc := 86) dX6_readChair_86 (by decide) (fun k86x1 => ?pT86x1) (fun k86x1 => ?pF86x1) ?pK86x1
      case pT86x1 =>
        refine r_iconst (v := nI 3) (pc := 93) dX6_readChair_93 (by decide) ?_
        exact k86x1
      case pF86x1 =>
        refine r_iconst (v := nI 1) (pc := 89) dX6_readChair_89 (by decide) ?_
        refine r_goto (tgt := 94) (pc := 90) dX6_readChair_90 (by decide) ?_
        exact k86x1
      case pK86x1 =>
        refine iv_X6_111 (c_X6_faults _ _ _ _) (pc := 94) dX6_readChair_94 rfl ⟨Nat.le_of_ble_eq_true rfl, Nat.le_of_ble_eq_true rfl⟩ (Nat.le_of_ble_eq_true rfl) hcs (kI ?_)
        exact r_zret (pc := 97) dX6_readChair_97 rfl (by first | rfl | exact bI_narrow) ⟨by rw [bI_f (isR_inl e9)], frP.p14 _ _, fun d p2 z => (by rw [e9] at z; cases z), fun pl w z => (by rw [e9] at z; cases z; exact ⟨hpos.1, by rw [mset_eq, pk_us]; exact e8⟩)⟩
    · have h75n : srt (M 6) b p ≠ 0 := fun z => h75 (by rw [z]; rfl)
      obtain ⟨sc, hsc1, hsc2, hss⟩ := srt_s h75n
      refine r_iload_n (pc := 78) dX6_readChair_78 rfl ?_
      refine r_bipush (v := nI 6) (pc := 79) dX6_readChair_79 (by decide) ?_
      refine r_icmp_ne (tgt := 98) (pc := 81) dX6_readChair_81 (by decide) (fun h81 => ?_) (fun h81 => ?_)
      · have h81n : c ≠ 6 := fun z => h81 (by rw [z])
        refine r_aload_n (pc := 98) dX6_readChair_98 rfl ?_
        refine iv_X6_114 (c_X6_nextToken _ _ _ (p + 1) b (pos_let2 hpos hsc1 hsc2 hss) hb hss.1 hb120) (pc := 99) dX6_readChair_99 rfl ⟨Nat.le_of_ble_eq_true rfl, Nat.le_of_ble_eq_true rfl⟩ (Nat.le_of_ble_eq_true rfl) hcs (kqV (fun N99 r99 => ?_))
        have k7 : N99 7 = M 7 := r99.1.1 7 (by decide)
        refine r_aload_n (pc := 102) dX6_readChair_102 rfl ?_
        refine gf_X6_28 (pc := 103) dX6_readChair_103 rfl ?_
        refine r_iconst (v := nI 5) (pc := 106) dX6_readChair_106 (by decide) ?_
        refine r_iload_n (pc := 107) dX6_readChair_107 rfl ?_
        first | with_reducible refine r_iaddN (pc := 108) dX6_readChair_108 ?_ | refine r_iadd (pc := 108) dX6_readChair_108 ?_
        refine r_iload_n (pc := 109) dX6_readChair_109 rfl ?_
        refine r_iast (pc := 110) dX6_readChair_110 rfl (show _ < 41 by omega) ?_
        refine r_aload_n (pc := 111) dX6_readChair_111 rfl ?_
        refine gf_X6_28 (pc := 112) dX6_readChair_112 rfl ?_
        refine r_iconst (v := nI 2) (pc := 115) dX6_readChair_115 (by decide) ?_
        refine r_dup2 (pc := 116) dX6_readChair_116 rfl rfl ?_
        refine r_iald (pc := 117) dX6_readChair_117 rfl (show _ < 41 by omega) ?_
        refine r_is (nI c) (by show upd (N99 7) (5 + c) _ 2 = _; rw [pk_un (by omega), k7]; exact hc) ?_
        refine r_iconst (v := nI 1) (pc := 118) dX6_readChair_118 (by decide) ?_
        first | with_reducible refine r_iaddN (pc := 119) dX6_readChair_119 ?_ | refine r_iadd (pc := 119) dX6_readChair_119 ?_
        refine r_iast (pc := 120) dX6_readChair_120 rfl (show _ < 41 by omega) ?_
        have f99 : frP M (mset (mset N99 7 (5 + c) (nI (srt (M 6) b p))) 7 2 (nI (c + 1))) := (r99.1.P.trans (frP.p7 _ _ _)).trans (frP.p7 _ _ _)
        have s99b := f99.six
        have q99 : pos (mset (mset N99 7 (5 + c) (nI (srt (M 6) b p))) 7 2 (nI (c + 1))) b (p + 1) := r99.2
        have l99 : p + 1 ≤ b := hss.1
        refine r_aload_n (pc := 121) dX6_readChair_121 rfl ?_
        refine r_iconst (v := nI 0) (pc := 122) dX6_readChair_122 (by decide) ?_
        refine r_bipush (v := nI 60) (pc := 123) dX6_readChair_123 (by decide) ?_
        refine r_bipush (v := nI 11) (pc := 125) dX6_readChair_125 (by decide) ?_
        refine r_iload_n (pc := 127) dX6_readChair_127 rfl ?_
        first | with_reducible refine r_iaddN (pc := 128) dX6_readChair_128 ?_ | refine r_iadd (pc := 128) dX6_readChair_128 ?_
        refine r_bipush (v := nI 44) (pc := 129) dX6_readChair_129 (by decide) ?_
        refine iv_X6_120 (c_X6_takesNumber _ _ _ (p + 1) b 0 60 (11 + c) 44 q99 (f99.b8 hb) l99 hb120 (by omega) (by omega) (by omega) (by decide) (by decide) (by decide)) (pc := 131) dX6_readChair_131 rfl ⟨Nat.le_of_ble_eq_true rfl, Nat.le_of_ble_eq_true rfl⟩ (Nat.le_of_ble_eq_true rfl) hcs (kqI (fun N131 r131 => ?_))
        rw [s99b] at r131 ⊢
        refine r_ifeq_b (tgt := 172) (pc := 134) dX6_readChair_134 (by decide) (fun h134 => ?_) (fun h134 => ?_)
        · obtain ⟨⟨pl, w⟩, en⟩ := isR_f h134
          have e9 : chO (M 6) b p c = .inl (pl, w) := by rw [chO, if_neg h75n, if_neg h81n, en]
          have hw := r131.2.2 pl w en
          have hfr := f99.trans r131.1
          refine r_iconst (v := nI 0) (pc := 172) dX6_readChair_172 (by decide) ?_
          exact r_zret (pc := 173) dX6_readChair_173 rfl (by first | rfl | exact bI_narrow) (by
                first
                  | exact ⟨by rw [bI_f (isR_inl e9)], hfr, fun d p2 z => (by rw [e9] at z; cases z), fun pl w z => (by rw [e9] at z; cases z; exact hw)⟩
                  | exact ⟨by rw [bI_t (isR_inr e9)], f162, fun d p2 z => (by rw [e9] at z; cases z; refine ⟨?_, q3, l3⟩; rw [e73, e72, e7, mset_eq, mset_eq, k7]; rfl), fun pl w z => (by rw [e9] at z; cases z)⟩)
        · obtain ⟨⟨lg, p1⟩, en⟩ := isR_t h134
          obtain ⟨e7, q1, l1⟩ := r131.2.1 lg p1 en
          have f131 := f99.trans r131.1
          have s131 := f131.six
          have g131 := r131.1
          refine r_aload_n (pc := 137) dX6_readChair_137 rfl ?_
          refine r_iconst (v := nI 0) (pc := 138) dX6_readChair_138 (by decide) ?_
          refine r_bipush (v := nI 9) (pc := 139) dX6_readChair_139 (by decide) ?_
          refine r_bipush (v := nI 17) (pc := 141) dX6_readChair_141 (by decide) ?_
          refine r_iload_n (pc := 143) dX6_readChair_143 rfl ?_
          first | with_reducible refine r_iaddN (pc := 144) dX6_readChair_144 ?_ | refine r_iadd (pc := 144) dX6_readChair_144 ?_
          refine r_bipush (v := nI 44) (pc := 145) dX6_readChair_145 (by decide) ?_
          refine iv_X6_120 (c_X6_takesNumber _ _ _ p1 b 0 9 (17 + c) 44 q1 (f131.b8 hb) l1 hb120 (by omega) (by omega) (by omega) (by decide) (by decide) (by decide)) (pc := 147) dX6_readChair_147 rfl ⟨Nat.le_of_ble_eq_true rfl, Nat.le_of_ble_eq_true rfl⟩ (Nat.le_of_ble_eq_true rfl) hcs (kqI (fun N147 r147 => ?_))
          rw [s131] at r147 ⊢
          refine r_ifeq_b (tgt := 172) (pc := 150) dX6_readChair_150 (by decide) (fun h150 => ?_) (fun h150 => ?_)
          · obtain ⟨⟨pl, w⟩, en2⟩ := isR_f h150
            have e9 : chO (M 6) b p c = .inl (pl, w) := by rw [chO, if_neg h75n, if_neg h81n, en]; dsimp only; rw [en2]
            have hw := r147.2.2 pl w en2
            have hfr := f131.trans r147.1
            refine r_iconst (v := nI 0) (pc := 172) dX6_readChair_172 (by decide) ?_
            exact r_zret (pc := 173) dX6_readChair_173 rfl (by first | rfl | exact bI_narrow) (by
                  first
                    | exact ⟨by rw [bI_f (isR_inl e9)], hfr, fun d p2 z => (by rw [e9] at z; cases z), fun pl w z => (by rw [e9] at z; cases z; exact hw)⟩
                    | exact ⟨by rw [bI_t (isR_inr e9)], f162, fun d p2 z => (by rw [e9] at z; cases z; refine ⟨?_, q3, l3⟩; rw [e73, e72, e7, mset_eq, mset_eq, k7]; rfl), fun pl w z => (by rw [e9] at z; cases z)⟩)
          · obtain ⟨⟨sw, p2⟩, en2⟩ := isR_t h150
            obtain ⟨e72, q2, l2⟩ := r147.2.1 sw p2 en2
            have f147 := f131.trans r147.1
            have s147 := f147.six
            refine r_aload_n (pc := 153) dX6_readChair_153 rfl ?_
            refine r_iconst (v := nI 0) (pc := 154) dX6_readChair_154 (by decide) ?_
            refine r_iconst (v := nI 3) (pc := 155) dX6_readChair_155 (by decide) ?_
            refine r_bipush (v := nI 23) (pc := 156) dX6_readChair_156 (by decide) ?_
            refine r_iload_n (pc := 158) dX6_readChair_158 rfl ?_
            first | with_reducible refine r_iaddN (pc := 159) dX6_readChair_159 ?_ | refine r_iadd (pc := 159) dX6_readChair_159 ?_
            refine r_bipush (v := nI 59) (pc := 160) dX6_readChair_160 (by decide) ?_
            refine iv_X6_120 (c_X6_takesNumber _ _ _ p2 b 0 3 (23 + c) 59 q2 (f147.b8 hb) l2 hb120 (by omega) (by omega) (by omega) (by decide) (by decide) (by decide)) (pc := 162) dX6_readChair_162 rfl ⟨Nat.le_of_ble_eq_true rfl, Nat.le_of_ble_eq_true rfl⟩ (Nat.le_of_ble_eq_true rfl) hcs (kqI (fun N162 r162 => ?_))
            rw [s147] at r162 ⊢
            refine r_ifeq_b (tgt := 172) (pc := 165) dX6_readChair_165 (by decide) (fun h165 => ?_) (fun h165 => ?_)
            · obtain ⟨⟨pl, w⟩, en3⟩ := isR_f h165
              have e9 : chO (M 6) b p c = .inl (pl, w) := by rw [chO, if_neg h75n, if_neg h81n, en]; dsimp only; rw [en2]; dsimp only; rw [en3]
              have hw := r162.2.2 pl w en3
              have hfr := f147.trans r162.1
              refine r_iconst (v := nI 0) (pc := 172) dX6_readChair_172 (by decide) ?_
              exact r_zret (pc := 173) dX6_readChair_173 rfl (by first | rfl | exact bI_narrow) (by
                    first
                      | exact ⟨by rw [bI_f (isR_inl e9)], hfr, fun d p2 z => (by rw [e9] at z; cases z), fun pl w z => (by rw [e9] at z; cases z; exact hw)⟩
                      | exact ⟨by rw [bI_t (isR_inr e9)], f162, fun d p2 z => (by rw [e9] at z; cases z; refine ⟨?_, q3, l3⟩; rw [e73, e72, e7, mset_eq, mset_eq, k7]; rfl), fun pl w z => (by rw [e9] at z; cases z)⟩)
            · obtain ⟨⟨gr, p3⟩, en3⟩ := isR_t h165
              obtain ⟨e73, q3, l3⟩ := r162.2.1 gr p3 en3
              have f162 := f147.trans r162.1
              have e9 : chO (M 6) b p c = .inr ((srt (M 6) b p, lg, sw, gr), p3) := by rw [chO, if_neg h75n, if_neg h81n, en]; dsimp only; rw [en2]; dsimp only; rw [en3]
              refine r_iconst (v := nI 1) (pc := 168) dX6_readChair_168 (by decide) ?_
              refine r_goto (tgt := 173) (pc := 169) dX6_readChair_169 (by decide) ?_
              exact r_zret (pc := 173) dX6_readChair_173 rfl (by first | rfl | exact bI_narrow) (by
                    first
                      | exact ⟨by rw [bI_f (isR_inl e9)], hfr, fun d p2 z => (by rw [e9] at z; cases z), fun pl w z => (by rw [e9] at z; cases z; exact hw)⟩
                      | exact ⟨by rw [bI_t (isR_inr e9)], f162, fun d p2 z => (by rw [e9] at z; cases z; refine ⟨?_, q3, l3⟩; rw [e73, e72, e7, mset_eq, mset_eq, k7]; rfl), fun pl w z => (by rw [e9] at z; cases z)⟩)
      · have h81n : c = 6 := (nI_eq (by omega) (by omega)).mp h81
        have e9 : chO (M 6) b p c = .inl (p, 3) := by rw [chO, if_neg h75n, if_pos h81n]
        have e8 : (if nI (srt (M 6) b p) = 0 then nI 1 else nI 3) = nI 3 := if_neg h75
        refine r_aload_n (pc := 84) dX6_readChair_84 rfl ?_
        refine r_iload_n (pc := 85) dX6_readChair_85 rfl ?_
        refine t_if_ne (tgt := 93) (J := 94) (a := ?pA86x2) (b := ?pB86x2) (pc := 86) dX6_readChair_86 (by decide) (fun k86x2 => ?pT86x2) (fun k86x2 => ?pF86x2) ?pK86x2
        case pT86x2 =>
          refine r_iconst (v := nI 3) (pc := 93) dX6_readChair_93 (by decide) ?_
          exact k86x2
        case pF86x2 =>
          refine r_iconst (v := nI 1) (pc := 89) dX6_readChair_89 (by decide) ?_
          refine r_goto (tgt := 94) (pc := 90) dX6_readChair_90 (by decide) ?_
          exact k86x2
        case pK86x2 =>
          refine iv_X6_111 (c_X6_faults _ _ _ _) (pc := 94) dX6_readChair_94 rfl ⟨Nat.le_of_ble_eq_true rfl, Nat.le_of_ble_eq_true rfl⟩ (Nat.le_of_ble_eq_true rfl) hcs (kI ?_)
          exact r_zret (pc := 97) dX6_readChair_97 rfl (by first | rfl | exact bI_narrow) ⟨by rw [bI_f (isR_inl e9)], frP.p14 _ _, fun d p2 z => (by rw [e9] at z; cases z), fun pl w z => (by rw [e9] at z; cases z; exact ⟨hpos.1, by rw [mset_eq, pk_us]; exact e8⟩)⟩
  refine r_aload_n (pc := 0) dX6_readChair_0 rfl ?_
  refine r_bipush (v := nI 112) (pc := 1) dX6_readChair_1 (by decide) ?_
  refine iv_X6_108 (c_X6_isLetter _ _ _ _) (pc := 3) dX6_readChair_3 rfl ⟨Nat.le_of_ble_eq_true rfl, Nat.le_of_ble_eq_true rfl⟩ (Nat.le_of_ble_eq_true rfl) hcs (kI ?_)
  refine r_ifeq_b (tgt := 13) (pc := 6) dX6_readChair_6 (by decide) (fun h6 => ?_) (fun h6 => ?_)
  · have s112 : ¬ isS (M 6) b p 112 := fun z => h6 ((pos_let hpos (c := 112) (by decide) (by decide) (by decide) hb120).mpr z)
    refine r_aload_n (pc := 13) dX6_readChair_13 rfl ?_
    refine r_bipush (v := nI 114) (pc := 14) dX6_readChair_14 (by decide) ?_
    refine iv_X6_108 (c_X6_isLetter _ _ _ _) (pc := 16) dX6_readChair_16 rfl ⟨Nat.le_of_ble_eq_true rfl, Nat.le_of_ble_eq_true rfl⟩ (Nat.le_of_ble_eq_true rfl) hcs (kI ?_)
    refine r_ifeq_b (tgt := 26) (pc := 19) dX6_readChair_19 (by decide) (fun h19 => ?_) (fun h19 => ?_)
    · have s114 : ¬ isS (M 6) b p 114 := fun z => h19 ((pos_let hpos (c := 114) (by decide) (by decide) (by decide) hb120).mpr z)
      refine r_aload_n (pc := 26) dX6_readChair_26 rfl ?_
      refine r_bipush (v := nI 99) (pc := 27) dX6_readChair_27 (by decide) ?_
      refine iv_X6_108 (c_X6_isLetter _ _ _ _) (pc := 29) dX6_readChair_29 rfl ⟨Nat.le_of_ble_eq_true rfl, Nat.le_of_ble_eq_true rfl⟩ (Nat.le_of_ble_eq_true rfl) hcs (kI ?_)
      refine r_ifeq_b (tgt := 39) (pc := 32) dX6_readChair_32 (by decide) (fun h32 => ?_) (fun h32 => ?_)
      · have s99 : ¬ isS (M 6) b p 99 := fun z => h32 ((pos_let hpos (c := 99) (by decide) (by decide) (by decide) hb120).mpr z)
        refine r_aload_n (pc := 39) dX6_readChair_39 rfl ?_
        refine r_bipush (v := nI 111) (pc := 40) dX6_readChair_40 (by decide) ?_
        refine iv_X6_108 (c_X6_isLetter _ _ _ _) (pc := 42) dX6_readChair_42 rfl ⟨Nat.le_of_ble_eq_true rfl, Nat.le_of_ble_eq_true rfl⟩ (Nat.le_of_ble_eq_true rfl) hcs (kI ?_)
        refine r_ifeq_b (tgt := 52) (pc := 45) dX6_readChair_45 (by decide) (fun h45 => ?_) (fun h45 => ?_)
        · have s111 : ¬ isS (M 6) b p 111 := fun z => h45 ((pos_let hpos (c := 111) (by decide) (by decide) (by decide) hb120).mpr z)
          refine r_aload_n (pc := 52) dX6_readChair_52 rfl ?_
          refine r_bipush (v := nI 116) (pc := 53) dX6_readChair_53 (by decide) ?_
          refine iv_X6_108 (c_X6_isLetter _ _ _ _) (pc := 55) dX6_readChair_55 rfl ⟨Nat.le_of_ble_eq_true rfl, Nat.le_of_ble_eq_true rfl⟩ (Nat.le_of_ble_eq_true rfl) hcs (kI ?_)
          refine r_ifeq_b (tgt := 65) (pc := 58) dX6_readChair_58 (by decide) (fun h58 => ?_) (fun h58 => ?_)
          · have s116 : ¬ isS (M 6) b p 116 := fun z => h58 ((pos_let hpos (c := 116) (by decide) (by decide) (by decide) hb120).mpr z)
            refine r_iconst (v := nI 0) (pc := 65) dX6_readChair_65 (by decide) ?_
            exact J66 _ (by rw [srt, if_neg s112, if_neg s114, if_neg s99, if_neg s111, if_neg s116])
          · have s116 : isS (M 6) b p 116 := (pos_let hpos (c := 116) (by decide) (by decide) (by decide) hb120).mp h58
            refine r_iconst (v := nI 5) (pc := 61) dX6_readChair_61 (by decide) ?_
            refine r_goto (tgt := 66) (pc := 62) dX6_readChair_62 (by decide) ?_
            exact J66 _ (by rw [srt, if_neg s112, if_neg s114, if_neg s99, if_neg s111, if_pos s116])
        · have s111 : isS (M 6) b p 111 := (pos_let hpos (c := 111) (by decide) (by decide) (by decide) hb120).mp h45
          refine r_iconst (v := nI 4) (pc := 48) dX6_readChair_48 (by decide) ?_
          refine r_goto (tgt := 66) (pc := 49) dX6_readChair_49 (by decide) ?_
          exact J66 _ (by rw [srt, if_neg s112, if_neg s114, if_neg s99, if_pos s111])
      · have s99 : isS (M 6) b p 99 := (pos_let hpos (c := 99) (by decide) (by decide) (by decide) hb120).mp h32
        refine r_iconst (v := nI 3) (pc := 35) dX6_readChair_35 (by decide) ?_
        refine r_goto (tgt := 66) (pc := 36) dX6_readChair_36 (by decide) ?_
        exact J66 _ (by rw [srt, if_neg s112, if_neg s114, if_pos s99])
    · have s114 : isS (M 6) b p 114 := (pos_let hpos (c := 114) (by decide) (by decide) (by decide) hb120).mp h19
      refine r_iconst (v := nI 2) (pc := 22) dX6_readChair_22 (by decide) ?_
      refine r_goto (tgt := 66) (pc := 23) dX6_readChair_23 (by decide) ?_
      exact J66 _ (by rw [srt, if_neg s112, if_pos s114])
  · have s112 : isS (M 6) b p 112 := (pos_let hpos (c := 112) (by decide) (by decide) (by decide) hb120).mp h6
    refine r_iconst (v := nI 1) (pc := 9) dX6_readChair_9 (by decide) ?_
    refine r_goto (tgt := 66) (pc := 10) dX6_readChair_10 (by decide) ?_
    exact J66 _ (by rw [srt, if_pos s112])
