def offW (p : Nat) : Nat := if p = 0 then 5 else if p = 1 then 17 else 23
def loW (p : Nat) : Nat := if p = 0 then 1 else 0
def hiW (p : Nat) : Nat := if p = 0 then 5 else if p = 1 then 9 else 3
theorem offW_le (p : Nat) : offW p ≤ 23 ∧ 5 ≤ offW p := by
  unfold offW
  split
  · omega
  · split <;> omega
theorem lohiW (p : Nat) : loW p ≤ 1 ∧ 3 ≤ hiW p ∧ hiW p ≤ 9 := by
  unfold loW hiW
  split
  · omega
  · split <;> omega
def wbN (c : Nat → Bool) (lo : Nat) : Nat → Int32
  | 0 => nI 0
  | j + 1 => if lo ≤ j then wbN c lo j ||| (if c j = true then nI 1 <<< (nI j &&& 31) else nI 0) else nI 0
theorem wbN_lo (c : Nat → Bool) (lo : Nat) : ∀ j, j ≤ lo → wbN c lo j = nI 0
  | 0, _ => rfl
  | j + 1, h => by rw [wbN, if_neg (by omega)]
/-- the bits of those that, watched besides, make it so -/
def guN (S : Nat → Int32) (c : Nat → Bool) (b : Int32) : Nat → Int32
  | 0 => b
  | j + 1 => if hasB (S 4) (nI j) then guN S c b j else guN S c b j ||| (if c j = true then nI 1 <<< (nI j &&& 31) else nI 0)
set_option maxHeartbeats 4000000 in
set_option maxRecDepth 100000 in
theorem c_X6_who (l : Launch) (G : Gx) (M : Mem) (x y z l1 i w : Int32) (n : Nat) (hn : M 4 2 = nI n) (hn6 : n ≤ 6) (hz : ∀ r, r ≤ 7 → M 2 r < 0 ∨ ∃ s, s ≤ 40 ∧ M 2 r = nI s) : Con l G yX6_who cX6_who 11 (some .int) 7 159 [.ref (gA G 0), .int x, .int y, .int z, .int l1, .int i, .int w] M (fun (v : Option Value) (M' : Mem) => (¬ (chG n x ∧ rgG 0 2 y ∧ chG n z ∧ rgG 0 7 l1 ∧ rgG 1 12 w) ∧ rI cBad M v M') ∨ (∃ k p o r m c, k < n ∧ p ≤ 2 ∧ o < n ∧ r ≤ 7 ∧ 1 ≤ m ∧ m ≤ 12 ∧ x = nI k ∧ y = nI p ∧ z = nI o ∧ l1 = nI r ∧ w = nI m ∧ LC (M 2 r) i m c ∧ ((c ≠ 0 ∧ c ≤ 2 ∧ rI (fnV c) (mset M 0 3 (nI c)) v M') ∨ (c = 0 ∧ ∃ t, i = nI t ∧ t + m ≤ 40 ∧ ∃ N, qm M N ∧ rI (wbN (fun ee => soB (fun i => M 3 (40 * r + t + i)) (fun i => highS (goP (upd (M 4) (offW p + k) (nI ee)) n (i + 1)) o) m) (loW p) (hiW p + 1)) (mset N 0 3 (nI 0)) v M')))) := by
  refine Con.ofV [some (.ref (gA G 0)), some (.int x), some (.int y), some (.int z), some (.int l1), some (.int i), some (.int w), none, none, none, none] RX6 (by decide) rfl (Nat.le_of_ble_eq_true rfl) rfl ?_
  intro κ hl hG hk0 hn0
  subst hl hG
  have hcs : κ.k ≤ 0 ∧ κ.n ≤ 0 := ⟨Nat.le_of_eq hk0, Nat.le_of_eq hn0⟩
  generalize hPP : (fun (v : Option Value) (M' : Mem) => (¬ (chG n x ∧ rgG 0 2 y ∧ chG n z ∧ rgG 0 7 l1 ∧ rgG 1 12 w) ∧ rI cBad M v M') ∨ (∃ k p o r m c, k < n ∧ p ≤ 2 ∧ o < n ∧ r ≤ 7 ∧ 1 ≤ m ∧ m ≤ 12 ∧ x = nI k ∧ y = nI p ∧ z = nI o ∧ l1 = nI r ∧ w = nI m ∧ LC (M 2 r) i m c ∧ ((c ≠ 0 ∧ c ≤ 2 ∧ rI (fnV c) (mset M 0 3 (nI c)) v M') ∨ (c = 0 ∧ ∃ t, i = nI t ∧ t + m ≤ 40 ∧ ∃ N, qm M N ∧ rI (wbN (fun ee => soB (fun i => M 3 (40 * r + t + i)) (fun i => highS (goP (upd (M 4) (offW p + k) (nI ee)) n (i + 1)) o) m) (loW p) (hiW p + 1)) (mset N 0 3 (nI 0)) v M')))) = PP
  have J64 : ∀ (u : Int32) (N : Mem), ((u < 0 ∧ PP (some (Value.int u)) N) ∨ (u = nI 0 ∧ M = N ∧ ∃ k p o r t m, k < n ∧ p ≤ 2 ∧ o < n ∧ r ≤ 7 ∧ t + m ≤ 40 ∧ 1 ≤ m ∧ m ≤ 12 ∧ x = nI k ∧ y = nI p ∧ z = nI o ∧ l1 = nI r ∧ i = nI t ∧ w = nI m ∧ LC (M 2 r) i m 0)) → V κ cX6_who RX6 11 (some .int) (rmx 7 159) (QM κ PP) N 64 [some (.ref (gA κ.G 0)), some (.int x), some (.int y), some (.int z), some (.int l1), some (.int i), some (.int w), none, none, none, none] [.int u] := by
    intro u N hu
    refine r_st [_, _, _, _, _, _, _, _, _, _, _] (pc := 64) dX6_who_64 (by decide) rfl rfl ?_
    refine r_iload (pc := 66) dX6_who_66 rfl ?_
    refine r_if_ge (tgt := 74) (pc := 68) dX6_who_68 (by decide) (fun h68 => ?_) (fun h68 => ?_)
    · obtain ⟨rfl, hMN, k, p, o, r, t, m, hk, hpb, ho, hrb, htm, hma, hmb, rfl, rfl, rfl, rfl, rfl, rfl, hlc⟩ := hu.resolve_left (fun z => absurd h68 (Int32.not_le.mpr z.1))
      subst hMN
      have hof := offW_le p
      have hlh := lohiW p
      refine r_aload_n (pc := 74) dX6_who_74 rfl ?_
      refine iv_X6_204 (d_X6_putAside _ _ _) (pc := 75) dX6_who_75 rfl ⟨Nat.le_of_ble_eq_true rfl, Nat.le_of_ble_eq_true rfl⟩ (Nat.le_of_ble_eq_true rfl) hcs (kqV (fun N75 r75 => ?_))
      have J104 : ∀ u : Int32, u = nI (offW p + k) → V κ cX6_who RX6 11 (some .int) (rmx 7 159) (QM κ PP) N75 104 [some (.ref (gA κ.G 0)), some (.int (nI k)), some (.int (nI p)), some (.int (nI o)), some (.int (nI r)), some (.int (nI t)), some (.int (nI m)), none, none, none, none] [.int u] := by
        rintro _ rfl
        refine r_st [_, _, _, _, _, _, _, _, _, _, _] (pc := 104) dX6_who_104 (by decide) rfl rfl ?_
        refine r_iconst (v := nI 0) (pc := 106) dX6_who_106 (by decide) ?_
        refine r_st [_, _, _, _, _, _, _, _, _, _, _] (pc := 107) dX6_who_107 (by decide) rfl rfl ?_
        refine r_iload_n (pc := 109) dX6_who_109 rfl ?_
        refine t_if_ne (tgt := 117) (J := 118) (a := ?pA110x1) (b := ?pB110x1) (pc := 110) dX6_who_110 (by decide) (fun k110x1 => ?pT110x1) (fun k110x1 => ?pF110x1) ?pK110x1
        case pT110x1 =>
          refine r_iconst (v := nI 0) (pc := 117) dX6_who_117 (by decide) ?_
          exact k110x1
        case pF110x1 =>
          refine r_iconst (v := nI 1) (pc := 113) dX6_who_113 (by decide) ?_
          refine r_goto (tgt := 118) (pc := 114) dX6_who_114 (by decide) ?_
          exact k110x1
        case pK110x1 =>
          refine r_is (nI (loW p)) (by by_cases h : p = 0; rw [h]; rfl; rw [loW, if_neg h, if_neg (fun z => h ((nI_eq (by omega) (by omega)).mp (z.trans nI_0.symm)))]) ?_
          refine r_st [_, _, _, _, _, _, _, _, _, _, _] (pc := 118) dX6_who_118 (by decide) rfl rfl ?_
          refine V.bk (loopV (fun (σ : Nat × Mem) => V κ cX6_who RX6 11 (some .int) (rmx 7 159) (QM κ PP) (σ.2) 120 [some (.ref (gA κ.G 0)), some (.int (nI k)), some (.int (nI p)), some (.int (nI o)), some (.int (nI r)), some (.int (nI t)), some (.int (nI m)), none, some (.int (nI (offW p + k))), some (.int (wbN (fun ee => soB (fun i => M 3 (40 * r + t + i)) (fun i => highS (goP (upd (M 4) (offW p + k) (nI ee)) n (i + 1)) o) m) (loW p) (σ.1))), some (.int (nI (σ.1)))] []) (fun (σ : Nat × Mem) => loW p ≤ (σ.1) ∧ (σ.1) ≤ hiW p + 1 ∧ rs M (M 4) (σ.2)) (fun (σ : Nat × Mem) => hiW p + 1 - (σ.1)) ?_ (loW p, N75) ⟨Nat.le_refl _, by omega, r75⟩) rfl (wk_s rfl (wk_s rfl (wk_s rfl (wk_s rfl (wk_s rfl (wk_s rfl (wk_s rfl (wk_n (wk_s rfl (wk_s (by rw [wbN_lo _ _ _ (Nat.le_refl _)]) (wk_s rfl wk_0)))))))))))
          rintro ⟨e, N⟩ hI0 ih
          dsimp only at hI0 ih
          obtain ⟨he1, he2, hN⟩ := hI0
          show V κ cX6_who RX6 11 (some .int) (rmx 7 159) (QM κ PP) N 120 [some (.ref (gA κ.G 0)), some (.int (nI k)), some (.int (nI p)), some (.int (nI o)), some (.int (nI r)), some (.int (nI t)), some (.int (nI m)), none, some (.int (nI (offW p + k))), some (.int (wbN (fun ee => soB (fun i => M 3 (40 * r + t + i)) (fun i => highS (goP (upd (M 4) (offW p + k) (nI ee)) n (i + 1)) o) m) (loW p) e)), some (.int (nI e))] []
          have J141 : ∀ u : Int32, u = nI (hiW p) → V κ cX6_who RX6 11 (some .int) (rmx 7 159) (QM κ PP) N 141 [some (.ref (gA κ.G 0)), some (.int (nI k)), some (.int (nI p)), some (.int (nI o)), some (.int (nI r)), some (.int (nI t)), some (.int (nI m)), none, some (.int (nI (offW p + k))), some (.int (wbN (fun ee => soB (fun i => M 3 (40 * r + t + i)) (fun i => highS (goP (upd (M 4) (offW p + k) (nI ee)) n (i + 1)) o) m) (loW p) e)), some (.int (nI e))] [.int u, .int (nI e)] := by
            rintro _ rfl
            refine r_icmp_gt (tgt := 190) (pc := 141) dX6_who_141 (by decide) (fun h141 => ?_) (fun h141 => ?_)
            · have h141 : hiW p < e := (nI_ltI (by omega) (by omega)).mp h141
              obtain rfl : e = hiW p + 1 := by omega
              refine r_aload_n (pc := 190) dX6_who_190 rfl ?_
              refine r_iload (pc := 191) dX6_who_191 rfl ?_
              refine iv_X6_72 (c_X6_well _ _ _ _) (pc := 193) dX6_who_193 rfl ⟨Nat.le_of_ble_eq_true rfl, Nat.le_of_ble_eq_true rfl⟩ (Nat.le_of_ble_eq_true rfl) hcs (kI ?_)
              exact r_iret (pc := 196) dX6_who_196 rfl (by subst hPP; exact (Or.inr ⟨k, p, o, r, m, 0, hk, hpb, ho, hrb, hma, hmb, rfl, rfl, rfl, rfl, rfl, hlc, Or.inr ⟨rfl, t, rfl, htm, N, hN.qm, rfl, rfl⟩⟩))
            · have h141 : e ≤ hiW p := Nat.not_lt.mp (fun z => h141 ((nI_ltI (by omega) (by omega)).mpr z))
              refine r_aload_n (pc := 144) dX6_who_144 rfl ?_
              refine gf_X6_19 (pc := 145) dX6_who_145 rfl ?_
              refine r_iload (pc := 148) dX6_who_148 rfl ?_
              refine r_iload (pc := 150) dX6_who_150 rfl ?_
              refine r_iast (pc := 152) dX6_who_152 rfl (show _ < 41 by omega) ?_
              refine r_iload (pc := 153) dX6_who_153 rfl ?_
              refine r_aload_n (pc := 155) dX6_who_155 rfl ?_
              refine r_iload_n (pc := 156) dX6_who_156 rfl ?_
              refine r_bipush (v := nI 40) (pc := 157) dX6_who_157 (by decide) ?_
              refine r_iload (pc := 159) dX6_who_159 rfl ?_
              first | with_reducible refine r_imulN (pc := 161) dX6_who_161 ?_ | refine r_imul (pc := 161) dX6_who_161 ?_
              refine r_iload (pc := 162) dX6_who_162 rfl ?_
              first | with_reducible refine r_iaddN (pc := 164) dX6_who_164 ?_ | refine r_iadd (pc := 164) dX6_who_164 ?_
              refine r_iload (pc := 165) dX6_who_165 rfl ?_
              refine iv_X6_231 (d_X6_isSo _ _ _ M (upd (M 4) (offW p + k) (nI e)) _ _ _ n (by omega) (by omega) (by omega) (hN.put (by omega) _) (by rw [pk_un (by omega)]; exact hn) hn6 (by omega)) (pc := 167) dX6_who_167 rfl ⟨Nat.le_of_ble_eq_true rfl, Nat.le_of_ble_eq_true rfl⟩ (Nat.le_of_ble_eq_true rfl) hcs (kqI (fun N167 r167 => ?_))
              refine t_ifeq_b (tgt := 180) (J := 181) (a := ?pA170x2) (b := ?pB170x2) (pc := 170) dX6_who_170 (by decide) (fun k170x2 => ?pT170x2) (fun k170x2 => ?pF170x2) ?pK170x2
              case pT170x2 =>
                refine r_iconst (v := nI 0) (pc := 180) dX6_who_180 (by decide) ?_
                exact k170x2
              case pF170x2 =>
                refine r_iconst (v := nI 1) (pc := 173) dX6_who_173 (by decide) ?_
                refine r_iload (pc := 174) dX6_who_174 rfl ?_
                refine r_ishl (pc := 176) dX6_who_176 ?_
                refine r_goto (tgt := 181) (pc := 177) dX6_who_177 (by decide) ?_
                exact k170x2
              case pK170x2 =>
                refine r_ior (pc := 181) dX6_who_181 ?_
                refine r_st [_, _, _, _, _, _, _, _, _, _, _] (pc := 182) dX6_who_182 (by decide) rfl rfl ?_
                first | refine r_inc [_, _, _, _, _, _, _, _, _, _, _] (pc := 184) dX6_who_184 rfl (nI_inc _) (by decide) rfl rfl ?_ | refine r_inc [_, _, _, _, _, _, _, _, _, _, _] (pc := 184) dX6_who_184 rfl rfl (by decide) rfl rfl ?_
                refine r_goto (tgt := 120) (pc := 187) dX6_who_187 (by decide) ?_
                exact V.bk (ih (e + 1, N167) ⟨by omega, by omega, r167⟩ (by omega)) rfl (wk_s rfl (wk_s rfl (wk_s rfl (wk_s rfl (wk_s rfl (wk_s rfl (wk_s rfl (wk_n (wk_s rfl (wk_s (by rw [wbN, if_pos he1]) (wk_s rfl wk_0)))))))))))
          refine r_iload (pc := 120) dX6_who_120 rfl ?_
          refine r_iload_n (pc := 122) dX6_who_122 rfl ?_
          refine r_if_ne (tgt := 130) (pc := 123) dX6_who_123 (by decide) (fun h123 => ?_) (fun h123 => ?_)
          · have h123 : p ≠ 0 := fun z => h123 (by rw [z]; rfl)
            refine r_iload_n (pc := 130) dX6_who_130 rfl ?_
            refine r_iconst (v := nI 1) (pc := 131) dX6_who_131 (by decide) ?_
            refine r_icmp_ne (tgt := 140) (pc := 132) dX6_who_132 (by decide) (fun h132 => ?_) (fun h132 => ?_)
            · have h132 : p ≠ 1 := fun z => h132 (by rw [z])
              have eh : nI 3 = nI (hiW p) := by rw [hiW, if_neg h123, if_neg h132]
              refine r_iconst (v := nI 3) (pc := 140) dX6_who_140 (by decide) ?_
              exact J141 _ eh
            · have h132 : p = 1 := (nI_eq (by omega) (by omega)).mp h132
              have eh : nI 9 = nI (hiW p) := by rw [h132]; rfl
              refine r_bipush (v := nI 9) (pc := 135) dX6_who_135 (by decide) ?_
              refine r_goto (tgt := 141) (pc := 137) dX6_who_137 (by decide) ?_
              exact J141 _ eh
          · have h123 : p = 0 := (nI_eq (by omega) (by omega)).mp (h123.trans nI_0.symm)
            have eh : nI 5 = nI (hiW p) := by rw [h123]; rfl
            refine r_iconst (v := nI 5) (pc := 126) dX6_who_126 (by decide) ?_
            refine r_goto (tgt := 141) (pc := 127) dX6_who_127 (by decide) ?_
            exact J141 _ eh
      refine r_iload_n (pc := 78) dX6_who_78 rfl ?_
      refine r_if_ne (tgt := 88) (pc := 79) dX6_who_79 (by decide) (fun h79 => ?_) (fun h79 => ?_)
      · have h79 : p ≠ 0 := fun z => h79 (by rw [z]; rfl)
        refine r_iload_n (pc := 88) dX6_who_88 rfl ?_
        refine r_iconst (v := nI 1) (pc := 89) dX6_who_89 (by decide) ?_
        refine r_icmp_ne (tgt := 100) (pc := 90) dX6_who_90 (by decide) (fun h90 => ?_) (fun h90 => ?_)
        · have h90 : p ≠ 1 := fun z => h90 (by rw [z])
          have ew : nI (23 + k) = nI (offW p + k) := by rw [offW, if_neg h79, if_neg h90]
          refine r_bipush (v := nI 23) (pc := 100) dX6_who_100 (by decide) ?_
          refine r_iload_n (pc := 102) dX6_who_102 rfl ?_
          first | with_reducible refine r_iaddN (pc := 103) dX6_who_103 ?_ | refine r_iadd (pc := 103) dX6_who_103 ?_
          exact V.bk (J104 _ ew) rfl (by (repeat (first | exact wk_0 | refine wk_n ?_ | refine wk_s rfl ?_)); done)
        · have h90 : p = 1 := (nI_eq (by omega) (by omega)).mp h90
          have ew : nI (17 + k) = nI (offW p + k) := by rw [h90]; rfl
          refine r_bipush (v := nI 17) (pc := 93) dX6_who_93 (by decide) ?_
          refine r_iload_n (pc := 95) dX6_who_95 rfl ?_
          first | with_reducible refine r_iaddN (pc := 96) dX6_who_96 ?_ | refine r_iadd (pc := 96) dX6_who_96 ?_
          refine r_goto (tgt := 104) (pc := 97) dX6_who_97 (by decide) ?_
          exact V.bk (J104 _ ew) rfl (by (repeat (first | exact wk_0 | refine wk_n ?_ | refine wk_s rfl ?_)); done)
      · have h79 : p = 0 := (nI_eq (by omega) (by omega)).mp (h79.trans nI_0.symm)
        have ew : nI (5 + k) = nI (offW p + k) := by rw [h79]; rfl
        refine r_iconst (v := nI 5) (pc := 82) dX6_who_82 (by decide) ?_
        refine r_iload_n (pc := 83) dX6_who_83 rfl ?_
        first | with_reducible refine r_iaddN (pc := 84) dX6_who_84 ?_ | refine r_iadd (pc := 84) dX6_who_84 ?_
        refine r_goto (tgt := 104) (pc := 85) dX6_who_85 (by decide) ?_
        exact V.bk (J104 _ ew) rfl (by (repeat (first | exact wk_0 | refine wk_n ?_ | refine wk_s rfl ?_)); done)
    · refine r_iload (pc := 71) dX6_who_71 rfl ?_
      exact r_iret (pc := 73) dX6_who_73 rfl (by subst hPP; exact (hu.elim (fun z => z.2) (fun z => absurd (by rw [z.1]; decide) h68)))
  refine r_aload_n (pc := 0) dX6_who_0 rfl ?_
  refine r_iload_n (pc := 1) dX6_who_1 rfl ?_
  refine iv_X6_178 (c_X6_isChair _ _ _ _) (pc := 2) dX6_who_2 rfl ⟨Nat.le_of_ble_eq_true rfl, Nat.le_of_ble_eq_true rfl⟩ (Nat.le_of_ble_eq_true rfl) hcs (kI ?_)
  refine r_ifeq_b (tgt := 49) (pc := 5) dX6_who_5 (by decide) (fun h5 => ?_) (fun h5 => ?_)
  · have g5 : ¬ chG n x := fun z => h5 (ch_mpr hn hn6 z)
    refine r_ldc (pc := 49) dX6_who_49 lk_X6_67 ?_
    refine r_goto (tgt := 64) (pc := 51) dX6_who_51 (by decide) ?_
    exact J64 _ _ (Or.inl ⟨by decide, by subst hPP; exact Or.inl ⟨by first | exact fun z => g5 z.1 | exact fun z => g17 z.2.1 | exact fun z => g25 z.2.2.1 | exact fun z => g33 z.2.2.2.1 | exact fun z => g46 z.2.2.2.2, rfl, rfl⟩⟩)
  · obtain ⟨k, hk, rfl⟩ := ch_mp hn hn6 h5
    refine r_iload_n (pc := 8) dX6_who_8 rfl ?_
    refine r_i2l (pc := 9) dX6_who_9 ?_
    refine r_lconst (v := (nI 0).toInt64) (pc := 10) dX6_who_10 (by decide) ?_
    refine r_ldc2 (pc := 11) dX6_who_11 lk_X6_65 ?_
    refine iv_X6_57 (c_X6_inI _ _ _ _ _ _) (pc := 14) dX6_who_14 ⟨Nat.le_of_ble_eq_true rfl, Nat.le_of_ble_eq_true rfl⟩ (Nat.le_of_ble_eq_true rfl) hcs (kI ?_)
    refine r_ifeq_b (tgt := 49) (pc := 17) dX6_who_17 (by decide) (fun h17 => ?_) (fun h17 => ?_)
    · have g17 : ¬ rgG 0 2 y := fun z => h17 (rg_mpr z (by omega))
      refine r_ldc (pc := 49) dX6_who_49 lk_X6_67 ?_
      refine r_goto (tgt := 64) (pc := 51) dX6_who_51 (by decide) ?_
      exact J64 _ _ (Or.inl ⟨by decide, by subst hPP; exact Or.inl ⟨by first | exact fun z => g5 z.1 | exact fun z => g17 z.2.1 | exact fun z => g25 z.2.2.1 | exact fun z => g33 z.2.2.2.1 | exact fun z => g46 z.2.2.2.2, rfl, rfl⟩⟩)
    · obtain ⟨p, hpa, hpb, rfl⟩ := rg_mp (a := 0) (b := 2) h17 (by omega) (by omega)
      refine r_aload_n (pc := 20) dX6_who_20 rfl ?_
      refine r_iload_n (pc := 21) dX6_who_21 rfl ?_
      refine iv_X6_178 (c_X6_isChair _ _ _ _) (pc := 22) dX6_who_22 rfl ⟨Nat.le_of_ble_eq_true rfl, Nat.le_of_ble_eq_true rfl⟩ (Nat.le_of_ble_eq_true rfl) hcs (kI ?_)
      refine r_ifeq_b (tgt := 49) (pc := 25) dX6_who_25 (by decide) (fun h25 => ?_) (fun h25 => ?_)
      · have g25 : ¬ chG n z := fun z => h25 (ch_mpr hn hn6 z)
        refine r_ldc (pc := 49) dX6_who_49 lk_X6_67 ?_
        refine r_goto (tgt := 64) (pc := 51) dX6_who_51 (by decide) ?_
        exact J64 _ _ (Or.inl ⟨by decide, by subst hPP; exact Or.inl ⟨by first | exact fun z => g5 z.1 | exact fun z => g17 z.2.1 | exact fun z => g25 z.2.2.1 | exact fun z => g33 z.2.2.2.1 | exact fun z => g46 z.2.2.2.2, rfl, rfl⟩⟩)
      · obtain ⟨o, ho, rfl⟩ := ch_mp hn hn6 h25
        refine r_iload (pc := 28) dX6_who_28 rfl ?_
        refine iv_X6_61 (c_X6_isRow _ _ _ _) (pc := 30) dX6_who_30 ⟨Nat.le_of_ble_eq_true rfl, Nat.le_of_ble_eq_true rfl⟩ (Nat.le_of_ble_eq_true rfl) hcs (kI ?_)
        refine r_ifeq_b (tgt := 49) (pc := 33) dX6_who_33 (by decide) (fun h33 => ?_) (fun h33 => ?_)
        · have g33 : ¬ rgG 0 7 l1 := fun z => h33 (rg_mpr z (by omega))
          refine r_ldc (pc := 49) dX6_who_49 lk_X6_67 ?_
          refine r_goto (tgt := 64) (pc := 51) dX6_who_51 (by decide) ?_
          exact J64 _ _ (Or.inl ⟨by decide, by subst hPP; exact Or.inl ⟨by first | exact fun z => g5 z.1 | exact fun z => g17 z.2.1 | exact fun z => g25 z.2.2.1 | exact fun z => g33 z.2.2.2.1 | exact fun z => g46 z.2.2.2.2, rfl, rfl⟩⟩)
        · obtain ⟨r, hra, hrb, rfl⟩ := rg_mp (a := 0) (b := 7) h33 (by omega) (by omega)
          refine r_iload (pc := 36) dX6_who_36 rfl ?_
          refine r_i2l (pc := 38) dX6_who_38 ?_
          refine r_lconst (v := (nI 1).toInt64) (pc := 39) dX6_who_39 (by decide) ?_
          refine r_ldc2 (pc := 40) dX6_who_40 lk_X6_229 ?_
          refine iv_X6_57 (c_X6_inI _ _ _ _ _ _) (pc := 43) dX6_who_43 ⟨Nat.le_of_ble_eq_true rfl, Nat.le_of_ble_eq_true rfl⟩ (Nat.le_of_ble_eq_true rfl) hcs (kI ?_)
          refine r_ifne_b (tgt := 54) (pc := 46) dX6_who_46 (by decide) (fun h46 => ?_) (fun h46 => ?_)
          · obtain ⟨m, hma, hmb, rfl⟩ := rg_mp (a := 1) (b := 12) h46 (by omega) (by omega)
            refine r_aload_n (pc := 54) dX6_who_54 rfl ?_
            refine r_iload (pc := 55) dX6_who_55 rfl ?_
            refine r_iload (pc := 57) dX6_who_57 rfl ?_
            refine r_iload (pc := 59) dX6_who_59 rfl ?_
            refine iv_X6_220 (c_X6_lacks _ _ _ _ _ _ (by omega) (by omega) hz) (pc := 61) dX6_who_61 rfl ⟨Nat.le_of_ble_eq_true rfl, Nat.le_of_ble_eq_true rfl⟩ (Nat.le_of_ble_eq_true rfl) hcs (fun v1 N1 h1 => ?_)
            obtain ⟨c, hc, h1⟩ := h1
            rcases h1 with ⟨rfl, rfl, rfl⟩ | ⟨hc0, hc2, rfl, rfl⟩
            · obtain ⟨s, t, e1, e2, rfl, e4⟩ := LC_0 hc
              exact J64 _ _ (Or.inr ⟨rfl, rfl, k, p, o, r, t, m, hk, hpb, ho, hrb, by omega, hma, hmb, rfl, rfl, rfl, rfl, rfl, rfl, hc⟩)
            · exact J64 _ _ (Or.inl ⟨fnV_neg (by omega), by subst hPP; exact Or.inr ⟨k, p, o, r, m, c, hk, hpb, ho, hrb, hma, hmb, rfl, rfl, rfl, rfl, rfl, hc, Or.inl ⟨hc0, hc2, rfl, rfl⟩⟩⟩)
          · have g46 : ¬ rgG 1 12 w := fun z => h46 (rg_mpr z (by omega))
            refine r_ldc (pc := 49) dX6_who_49 lk_X6_67 ?_
            refine r_goto (tgt := 64) (pc := 51) dX6_who_51 (by decide) ?_
            exact J64 _ _ (Or.inl ⟨by decide, by subst hPP; exact Or.inl ⟨by first | exact fun z => g5 z.1 | exact fun z => g17 z.2.1 | exact fun z => g25 z.2.2.1 | exact fun z => g33 z.2.2.2.1 | exact fun z => g46 z.2.2.2.2, rfl, rfl⟩⟩)
set_option maxHeartbeats 4000000 in
set_option maxRecDepth 100000 in
theorem c_X6_guarded (l : Launch) (G : Gx) (M : Mem) (x l1 i w : Int32) (n : Nat) (hn : M 4 2 = nI n) (hn6 : n ≤ 6) (hz : ∀ r, r ≤ 7 → M 2 r < 0 ∨ ∃ s, s ≤ 40 ∧ M 2 r = nI s) : Con l G yX6_guarded cX6_guarded 8 (some .int) 7 159 [.ref (gA G 0), .int x, .int l1, .int i, .int w] M (fun (v : Option Value) (M' : Mem) => (¬ (chG n x ∧ rgG 0 7 l1 ∧ rgG 1 12 w) ∧ rI cBad M v M') ∨ (∃ k r m c, k < n ∧ r ≤ 7 ∧ 1 ≤ m ∧ m ≤ 12 ∧ x = nI k ∧ l1 = nI r ∧ w = nI m ∧ LC (M 2 r) i m c ∧ ((c ≠ 0 ∧ c ≤ 2 ∧ rI (fnV c) (mset M 0 3 (nI c)) v M') ∨ (c = 0 ∧ ∃ t, i = nI t ∧ t + m ≤ 40 ∧ ∃ N, qm M N ∧ rI (guN (M 4) (fun ee => soB (fun i => M 3 (40 * r + t + i)) (fun i => highS (goP (upd (M 4) 4 (M 4 4 ||| nI 1 <<< (nI ee &&& 31))) n (i + 1)) k) m) (if soB (fun i => M 3 (40 * r + t + i)) (fun i => highS (goP (M 4) n (i + 1)) k) m = true then nI 64 else nI 0) n) (mset N 0 3 (nI 0)) v M')))) := by
  refine Con.ofV [some (.ref (gA G 0)), some (.int x), some (.int l1), some (.int i), some (.int w), none, none, none] RX6 (by decide) rfl (Nat.le_of_ble_eq_true rfl) rfl ?_
  intro κ hl hG hk0 hn0
  subst hl hG
  have hcs : κ.k ≤ 0 ∧ κ.n ≤ 0 := ⟨Nat.le_of_eq hk0, Nat.le_of_eq hn0⟩
  generalize hPP : (fun (v : Option Value) (M' : Mem) => (¬ (chG n x ∧ rgG 0 7 l1 ∧ rgG 1 12 w) ∧ rI cBad M v M') ∨ (∃ k r m c, k < n ∧ r ≤ 7 ∧ 1 ≤ m ∧ m ≤ 12 ∧ x = nI k ∧ l1 = nI r ∧ w = nI m ∧ LC (M 2 r) i m c ∧ ((c ≠ 0 ∧ c ≤ 2 ∧ rI (fnV c) (mset M 0 3 (nI c)) v M') ∨ (c = 0 ∧ ∃ t, i = nI t ∧ t + m ≤ 40 ∧ ∃ N, qm M N ∧ rI (guN (M 4) (fun ee => soB (fun i => M 3 (40 * r + t + i)) (fun i => highS (goP (upd (M 4) 4 (M 4 4 ||| nI 1 <<< (nI ee &&& 31))) n (i + 1)) k) m) (if soB (fun i => M 3 (40 * r + t + i)) (fun i => highS (goP (M 4) n (i + 1)) k) m = true then nI 64 else nI 0) n) (mset N 0 3 (nI 0)) v M')))) = PP
  have J41 : ∀ (u : Int32) (N : Mem), ((u < 0 ∧ PP (some (Value.int u)) N) ∨ (u = nI 0 ∧ M = N ∧ ∃ k r t m, k < n ∧ r ≤ 7 ∧ t + m ≤ 40 ∧ 1 ≤ m ∧ m ≤ 12 ∧ x = nI k ∧ l1 = nI r ∧ i = nI t ∧ w = nI m ∧ LC (M 2 r) i m 0)) → V κ cX6_guarded RX6 8 (some .int) (rmx 7 159) (QM κ PP) N 41 [some (.ref (gA κ.G 0)), some (.int x), some (.int l1), some (.int i), some (.int w), none, none, none] [.int u] := by
    intro u N hu
    refine r_st [_, _, _, _, _, _, _, _] (pc := 41) dX6_guarded_41 (by decide) rfl rfl ?_
    refine r_iload (pc := 43) dX6_guarded_43 rfl ?_
    refine r_if_ge (tgt := 51) (pc := 45) dX6_guarded_45 (by decide) (fun h45 => ?_) (fun h45 => ?_)
    · obtain ⟨rfl, hMN, k, r, t, m, hk, hrb, htm, hma, hmb, rfl, rfl, rfl, rfl, hlc⟩ := hu.resolve_left (fun z => absurd h45 (Int32.not_le.mpr z.1))
      subst hMN
      refine r_aload_n (pc := 51) dX6_guarded_51 rfl ?_
      refine iv_X6_204 (d_X6_putAside _ _ _) (pc := 52) dX6_guarded_52 rfl ⟨Nat.le_of_ble_eq_true rfl, Nat.le_of_ble_eq_true rfl⟩ (Nat.le_of_ble_eq_true rfl) hcs (kqV (fun N52 r52 => ?_))
      refine r_aload_n (pc := 55) dX6_guarded_55 rfl ?_
      refine r_iload_n (pc := 56) dX6_guarded_56 rfl ?_
      refine r_bipush (v := nI 40) (pc := 57) dX6_guarded_57 (by decide) ?_
      refine r_iload_n (pc := 59) dX6_guarded_59 rfl ?_
      first | with_reducible refine r_imulN (pc := 60) dX6_guarded_60 ?_ | refine r_imul (pc := 60) dX6_guarded_60 ?_
      refine r_iload_n (pc := 61) dX6_guarded_61 rfl ?_
      first | with_reducible refine r_iaddN (pc := 62) dX6_guarded_62 ?_ | refine r_iadd (pc := 62) dX6_guarded_62 ?_
      refine r_iload (pc := 63) dX6_guarded_63 rfl ?_
      refine iv_X6_231 (d_X6_isSo _ _ _ M (M 4) _ _ _ n (by omega) (by omega) (by omega) r52 hn hn6 (by omega)) (pc := 65) dX6_guarded_65 rfl ⟨Nat.le_of_ble_eq_true rfl, Nat.le_of_ble_eq_true rfl⟩ (Nat.le_of_ble_eq_true rfl) hcs (kqI (fun N65 r65 => ?_))
      refine t_ifeq_b (tgt := 76) (J := 77) (a := ?pA68x1) (b := ?pB68x1) (pc := 68) dX6_guarded_68 (by decide) (fun k68x1 => ?pT68x1) (fun k68x1 => ?pF68x1) ?pK68x1
      case pT68x1 =>
        refine r_iconst (v := nI 0) (pc := 76) dX6_guarded_76 (by decide) ?_
        exact k68x1
      case pF68x1 =>
        refine r_bipush (v := nI 64) (pc := 71) dX6_guarded_71 (by decide) ?_
        refine r_goto (tgt := 77) (pc := 73) dX6_guarded_73 (by decide) ?_
        exact k68x1
      case pK68x1 =>
        refine r_st [_, _, _, _, _, _, _, _] (pc := 77) dX6_guarded_77 (by decide) rfl rfl ?_
        refine r_iconst (v := nI 0) (pc := 79) dX6_guarded_79 (by decide) ?_
        refine r_st [_, _, _, _, _, _, _, _] (pc := 80) dX6_guarded_80 (by decide) rfl rfl ?_
        refine V.bk (loopV (fun (σ : Nat × Mem) => V κ cX6_guarded RX6 8 (some .int) (rmx 7 159) (QM κ PP) (σ.2) 82 [some (.ref (gA κ.G 0)), some (.int (nI k)), some (.int (nI r)), some (.int (nI t)), some (.int (nI m)), none, some (.int (guN (M 4) (fun ee => soB (fun i => M 3 (40 * r + t + i)) (fun i => highS (goP (upd (M 4) 4 (M 4 4 ||| nI 1 <<< (nI ee &&& 31))) n (i + 1)) k) m) (if soB (fun i => M 3 (40 * r + t + i)) (fun i => highS (goP (M 4) n (i + 1)) k) m = true then nI 64 else nI 0) (σ.1))), some (.int (nI (σ.1)))] []) (fun (σ : Nat × Mem) => (σ.1) ≤ n ∧ rs M (M 4) (σ.2)) (fun (σ : Nat × Mem) => n - (σ.1)) ?_ (0, N65) ⟨Nat.zero_le _, r65⟩) rfl (by (repeat (first | exact wk_0 | refine wk_n ?_ | refine wk_s rfl ?_)); done)
        rintro ⟨e, N⟩ hI0 ih
        dsimp only at hI0 ih
        obtain ⟨he, hN⟩ := hI0
        show V κ cX6_guarded RX6 8 (some .int) (rmx 7 159) (QM κ PP) N 82 [some (.ref (gA κ.G 0)), some (.int (nI k)), some (.int (nI r)), some (.int (nI t)), some (.int (nI m)), none, some (.int (guN (M 4) (fun ee => soB (fun i => M 3 (40 * r + t + i)) (fun i => highS (goP (upd (M 4) 4 (M 4 4 ||| nI 1 <<< (nI ee &&& 31))) n (i + 1)) k) m) (if soB (fun i => M 3 (40 * r + t + i)) (fun i => highS (goP (M 4) n (i + 1)) k) m = true then nI 64 else nI 0) e)), some (.int (nI e))] []
        refine r_iload (pc := 82) dX6_guarded_82 rfl ?_
        refine r_aload_n (pc := 84) dX6_guarded_84 rfl ?_
        refine gf_X6_19 (pc := 85) dX6_guarded_85 rfl ?_
        refine r_iconst (v := nI 2) (pc := 88) dX6_guarded_88 (by decide) ?_
        refine r_iald (pc := 89) dX6_guarded_89 rfl (show _ < 41 by omega) ?_
        refine r_is (nI n) (hN.n2 hn) ?_
        refine r_icmp_ge (tgt := 155) (pc := 90) dX6_guarded_90 (by decide) (fun h90 => ?_) (fun h90 => ?_)
        · have h90 : n ≤ e := (nI_leI (by omega) (by omega)).mp h90
          obtain rfl : n = e := by omega
          refine r_aload_n (pc := 155) dX6_guarded_155 rfl ?_
          refine r_iload (pc := 156) dX6_guarded_156 rfl ?_
          refine iv_X6_72 (c_X6_well _ _ _ _) (pc := 158) dX6_guarded_158 rfl ⟨Nat.le_of_ble_eq_true rfl, Nat.le_of_ble_eq_true rfl⟩ (Nat.le_of_ble_eq_true rfl) hcs (kI ?_)
          exact r_iret (pc := 161) dX6_guarded_161 rfl (by subst hPP; exact (Or.inr ⟨k, r, m, 0, hk, hrb, hma, hmb, rfl, rfl, rfl, hlc, Or.inr ⟨rfl, t, rfl, htm, N, hN.qm, rfl, rfl⟩⟩))
        · have h90 : e < n := Nat.not_le.mp (fun z => h90 ((nI_leI (by omega) (by omega)).mpr z))
          refine r_aload_n (pc := 93) dX6_guarded_93 rfl ?_
          refine gf_X6_19 (pc := 94) dX6_guarded_94 rfl ?_
          refine r_iconst (v := nI 4) (pc := 97) dX6_guarded_97 (by decide) ?_
          refine r_iald (pc := 98) dX6_guarded_98 rfl (show _ < 41 by omega) ?_
          refine r_is (M 4 4) (by rw [hN.1]) ?_
          refine r_iload (pc := 99) dX6_guarded_99 rfl ?_
          refine iv_X6_162 (c_X6_has _ _ _ _ _) (pc := 101) dX6_guarded_101 ⟨Nat.le_of_ble_eq_true rfl, Nat.le_of_ble_eq_true rfl⟩ (Nat.le_of_ble_eq_true rfl) hcs (kI ?_)
          refine r_ifne_b (tgt := 149) (pc := 104) dX6_guarded_104 (by decide) (fun h104 => ?_) (fun h104 => ?_)
          · have e9 : guN (M 4) (fun ee => soB (fun i => M 3 (40 * r + t + i)) (fun i => highS (goP (upd (M 4) 4 (M 4 4 ||| nI 1 <<< (nI ee &&& 31))) n (i + 1)) k) m) (if soB (fun i => M 3 (40 * r + t + i)) (fun i => highS (goP (M 4) n (i + 1)) k) m = true then nI 64 else nI 0) (e + 1) = guN (M 4) (fun ee => soB (fun i => M 3 (40 * r + t + i)) (fun i => highS (goP (upd (M 4) 4 (M 4 4 ||| nI 1 <<< (nI ee &&& 31))) n (i + 1)) k) m) (if soB (fun i => M 3 (40 * r + t + i)) (fun i => highS (goP (M 4) n (i + 1)) k) m = true then nI 64 else nI 0) e := if_pos h104
            have hNx := hN
            first | refine r_inc [_, _, _, _, _, _, _, _] (pc := 149) dX6_guarded_149 rfl (nI_inc _) (by decide) rfl rfl ?_ | refine r_inc [_, _, _, _, _, _, _, _] (pc := 149) dX6_guarded_149 rfl rfl (by decide) rfl rfl ?_
            refine r_goto (tgt := 82) (pc := 152) dX6_guarded_152 (by decide) ?_
            exact V.bk (ih (e + 1, _) ⟨by omega, hNx⟩ (by omega)) rfl (wk_s rfl (wk_s rfl (wk_s rfl (wk_s rfl (wk_s rfl (wk_n (wk_s (by rw [e9]) (wk_s rfl wk_0))))))))
          · have e9 : guN (M 4) (fun ee => soB (fun i => M 3 (40 * r + t + i)) (fun i => highS (goP (upd (M 4) 4 (M 4 4 ||| nI 1 <<< (nI ee &&& 31))) n (i + 1)) k) m) (if soB (fun i => M 3 (40 * r + t + i)) (fun i => highS (goP (M 4) n (i + 1)) k) m = true then nI 64 else nI 0) (e + 1) = guN (M 4) (fun ee => soB (fun i => M 3 (40 * r + t + i)) (fun i => highS (goP (upd (M 4) 4 (M 4 4 ||| nI 1 <<< (nI ee &&& 31))) n (i + 1)) k) m) (if soB (fun i => M 3 (40 * r + t + i)) (fun i => highS (goP (M 4) n (i + 1)) k) m = true then nI 64 else nI 0) e ||| (if (fun ee => soB (fun i => M 3 (40 * r + t + i)) (fun i => highS (goP (upd (M 4) 4 (M 4 4 ||| nI 1 <<< (nI ee &&& 31))) n (i + 1)) k) m) e = true then nI 1 <<< (nI e &&& 31) else nI 0) := if_neg h104
            refine r_aload_n (pc := 107) dX6_guarded_107 rfl ?_
            refine gf_X6_19 (pc := 108) dX6_guarded_108 rfl ?_
            refine r_iconst (v := nI 4) (pc := 111) dX6_guarded_111 (by decide) ?_
            refine r_dup2 (pc := 112) dX6_guarded_112 rfl rfl ?_
            refine r_iald (pc := 113) dX6_guarded_113 rfl (show _ < 41 by omega) ?_
            refine r_is (M 4 4) (by rw [hN.1]) ?_
            refine r_iconst (v := nI 1) (pc := 114) dX6_guarded_114 (by decide) ?_
            refine r_iload (pc := 115) dX6_guarded_115 rfl ?_
            refine r_ishl (pc := 117) dX6_guarded_117 ?_
            refine r_ior (pc := 118) dX6_guarded_118 ?_
            refine r_iast (pc := 119) dX6_guarded_119 rfl (show _ < 41 by omega) ?_
            refine r_iload (pc := 120) dX6_guarded_120 rfl ?_
            refine r_aload_n (pc := 122) dX6_guarded_122 rfl ?_
            refine r_iload_n (pc := 123) dX6_guarded_123 rfl ?_
            refine r_bipush (v := nI 40) (pc := 124) dX6_guarded_124 (by decide) ?_
            refine r_iload_n (pc := 126) dX6_guarded_126 rfl ?_
            first | with_reducible refine r_imulN (pc := 127) dX6_guarded_127 ?_ | refine r_imul (pc := 127) dX6_guarded_127 ?_
            refine r_iload_n (pc := 128) dX6_guarded_128 rfl ?_
            first | with_reducible refine r_iaddN (pc := 129) dX6_guarded_129 ?_ | refine r_iadd (pc := 129) dX6_guarded_129 ?_
            refine r_iload (pc := 130) dX6_guarded_130 rfl ?_
            refine iv_X6_231 (d_X6_isSo _ _ _ M _ _ _ _ n (by omega) (by omega) (by omega) (hN.put (by omega) _) (by rw [pk_un (by omega)]; exact hn) hn6 (by omega)) (pc := 132) dX6_guarded_132 rfl ⟨Nat.le_of_ble_eq_true rfl, Nat.le_of_ble_eq_true rfl⟩ (Nat.le_of_ble_eq_true rfl) hcs (kqI (fun N132 r132 => ?_))
            refine t_ifeq_b (tgt := 145) (J := 146) (a := ?pA135x2) (b := ?pB135x2) (pc := 135) dX6_guarded_135 (by decide) (fun k135x2 => ?pT135x2) (fun k135x2 => ?pF135x2) ?pK135x2
            case pT135x2 =>
              refine r_iconst (v := nI 0) (pc := 145) dX6_guarded_145 (by decide) ?_
              exact k135x2
            case pF135x2 =>
              refine r_iconst (v := nI 1) (pc := 138) dX6_guarded_138 (by decide) ?_
              refine r_iload (pc := 139) dX6_guarded_139 rfl ?_
              refine r_ishl (pc := 141) dX6_guarded_141 ?_
              refine r_goto (tgt := 146) (pc := 142) dX6_guarded_142 (by decide) ?_
              exact k135x2
            case pK135x2 =>
              refine r_ior (pc := 146) dX6_guarded_146 ?_
              have hNx := r132
              refine r_st [_, _, _, _, _, _, _, _] (pc := 147) dX6_guarded_147 (by decide) rfl rfl ?_
              first | refine r_inc [_, _, _, _, _, _, _, _] (pc := 149) dX6_guarded_149 rfl (nI_inc _) (by decide) rfl rfl ?_ | refine r_inc [_, _, _, _, _, _, _, _] (pc := 149) dX6_guarded_149 rfl rfl (by decide) rfl rfl ?_
              refine r_goto (tgt := 82) (pc := 152) dX6_guarded_152 (by decide) ?_
              exact V.bk (ih (e + 1, _) ⟨by omega, hNx⟩ (by omega)) rfl (wk_s rfl (wk_s rfl (wk_s rfl (wk_s rfl (wk_s rfl (wk_n (wk_s (by rw [e9]) (wk_s rfl wk_0))))))))
    · refine r_iload (pc := 48) dX6_guarded_48 rfl ?_
      exact r_iret (pc := 50) dX6_guarded_50 rfl (by subst hPP; exact (hu.elim (fun z => z.2) (fun z => absurd (by rw [z.1]; decide) h45)))
  refine r_aload_n (pc := 0) dX6_guarded_0 rfl ?_
  refine r_iload_n (pc := 1) dX6_guarded_1 rfl ?_
  refine iv_X6_178 (c_X6_isChair _ _ _ _) (pc := 2) dX6_guarded_2 rfl ⟨Nat.le_of_ble_eq_true rfl, Nat.le_of_ble_eq_true rfl⟩ (Nat.le_of_ble_eq_true rfl) hcs (kI ?_)
  refine r_ifeq_b (tgt := 28) (pc := 5) dX6_guarded_5 (by decide) (fun h5 => ?_) (fun h5 => ?_)
  · have g5 : ¬ chG n x := fun z => h5 (ch_mpr hn hn6 z)
    refine r_ldc (pc := 28) dX6_guarded_28 lk_X6_67 ?_
    refine r_goto (tgt := 41) (pc := 30) dX6_guarded_30 (by decide) ?_
    exact J41 _ _ (Or.inl ⟨by decide, by subst hPP; exact Or.inl ⟨by first | exact fun z => g5 z.1 | exact fun z => g12 z.2.1 | exact fun z => g25 z.2.2, rfl, rfl⟩⟩)
  · obtain ⟨k, hk, rfl⟩ := ch_mp hn hn6 h5
    refine r_iload_n (pc := 8) dX6_guarded_8 rfl ?_
    refine iv_X6_61 (c_X6_isRow _ _ _ _) (pc := 9) dX6_guarded_9 ⟨Nat.le_of_ble_eq_true rfl, Nat.le_of_ble_eq_true rfl⟩ (Nat.le_of_ble_eq_true rfl) hcs (kI ?_)
    refine r_ifeq_b (tgt := 28) (pc := 12) dX6_guarded_12 (by decide) (fun h12 => ?_) (fun h12 => ?_)
    · have g12 : ¬ rgG 0 7 l1 := fun z => h12 (rg_mpr z (by omega))
      refine r_ldc (pc := 28) dX6_guarded_28 lk_X6_67 ?_
      refine r_goto (tgt := 41) (pc := 30) dX6_guarded_30 (by decide) ?_
      exact J41 _ _ (Or.inl ⟨by decide, by subst hPP; exact Or.inl ⟨by first | exact fun z => g5 z.1 | exact fun z => g12 z.2.1 | exact fun z => g25 z.2.2, rfl, rfl⟩⟩)
    · obtain ⟨r, hra, hrb, rfl⟩ := rg_mp (a := 0) (b := 7) h12 (by omega) (by omega)
      refine r_iload (pc := 15) dX6_guarded_15 rfl ?_
      refine r_i2l (pc := 17) dX6_guarded_17 ?_
      refine r_lconst (v := (nI 1).toInt64) (pc := 18) dX6_guarded_18 (by decide) ?_
      refine r_ldc2 (pc := 19) dX6_guarded_19 lk_X6_229 ?_
      refine iv_X6_57 (c_X6_inI _ _ _ _ _ _) (pc := 22) dX6_guarded_22 ⟨Nat.le_of_ble_eq_true rfl, Nat.le_of_ble_eq_true rfl⟩ (Nat.le_of_ble_eq_true rfl) hcs (kI ?_)
      refine r_ifne_b (tgt := 33) (pc := 25) dX6_guarded_25 (by decide) (fun h25 => ?_) (fun h25 => ?_)
      · obtain ⟨m, hma, hmb, rfl⟩ := rg_mp (a := 1) (b := 12) h25 (by omega) (by omega)
        refine r_aload_n (pc := 33) dX6_guarded_33 rfl ?_
        refine r_iload_n (pc := 34) dX6_guarded_34 rfl ?_
        refine r_iload_n (pc := 35) dX6_guarded_35 rfl ?_
        refine r_iload (pc := 36) dX6_guarded_36 rfl ?_
        refine iv_X6_220 (c_X6_lacks _ _ _ _ _ _ (by omega) (by omega) hz) (pc := 38) dX6_guarded_38 rfl ⟨Nat.le_of_ble_eq_true rfl, Nat.le_of_ble_eq_true rfl⟩ (Nat.le_of_ble_eq_true rfl) hcs (fun v1 N1 h1 => ?_)
        obtain ⟨c, hc, h1⟩ := h1
        rcases h1 with ⟨rfl, rfl, rfl⟩ | ⟨hc0, hc2, rfl, rfl⟩
        · obtain ⟨s, t, e1, e2, rfl, e4⟩ := LC_0 hc
          exact J41 _ _ (Or.inr ⟨rfl, rfl, k, r, t, m, hk, hrb, by omega, hma, hmb, rfl, rfl, rfl, rfl, hc⟩)
        · exact J41 _ _ (Or.inl ⟨fnV_neg (by omega), by subst hPP; exact Or.inr ⟨k, r, m, c, hk, hrb, hma, hmb, rfl, rfl, rfl, hc, Or.inl ⟨hc0, hc2, rfl, rfl⟩⟩⟩)
      · have g25 : ¬ rgG 1 12 w := fun z => h25 (rg_mpr z (by omega))
        refine r_ldc (pc := 28) dX6_guarded_28 lk_X6_67 ?_
        refine r_goto (tgt := 41) (pc := 30) dX6_guarded_30 (by decide) ?_
        exact J41 _ _ (Or.inl ⟨by decide, by subst hPP; exact Or.inl ⟨by first | exact fun z => g5 z.1 | exact fun z => g12 z.2.1 | exact fun z => g25 z.2.2, rfl, rfl⟩⟩)
