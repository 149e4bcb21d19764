abbrev cI (I : Nat → Int32) (j : Nat) : Nat := (I j).toNatClampNeg
theorem okN_c {I : Nat → Int32} {n m j : Nat} (h : okN I n m) (hj : j < m) (hn : n ≤ 6) : I j = nI (cI I j) ∧ cI I j < n := by
  obtain ⟨⟨k, h1, h2⟩, -⟩ := h j hj
  have e : cI I j = k := by unfold cI; rw [h2, nI_clamp (by omega)]
  rw [e]
  exact ⟨h2, h1⟩
abbrev lgS (S : Nat → Int32) (c : Nat) : Nat := (S (11 + c)).toNatClampNeg
abbrev sfS (S : Nat → Int32) (c : Nat) : Nat := (S (29 + c)).toNatClampNeg
def dnN (S : Nat → Int32) (h : Int32) (a c : Nat) : Nat → Option Nat
  | 0 => if isAb h (nI a) (highB (S (5 + c)) (nI 0) (S (29 + c))) (nI c) then some 0 else none
  | l + 1 => if isAb h (nI a) (highB (S (5 + c)) (nI (l + 1)) (S (29 + c))) (nI c) then some (l + 1) else dnN S h a c l
theorem dnN_t {S : Nat → Int32} {h : Int32} {a c l : Nat} (e : isAb h (nI a) (highB (S (5 + c)) (nI l) (S (29 + c))) (nI c)) : dnN S h a c l = some l := by
  cases l <;> exact if_pos e
theorem dnN_f {S : Nat → Int32} {h : Int32} {a c l : Nat} (e : ¬ isAb h (nI a) (highB (S (5 + c)) (nI l) (S (29 + c))) (nI c)) : dnN S h a c l = if l = 0 then none else dnN S h a c (l - 1) := by
  cases l with
  | zero => exact if_neg e
  | succ l => exact if_neg e
theorem dnN_le (S : Nat → Int32) (h : Int32) (a c : Nat) : ∀ l k, dnN S h a c l = some k → k ≤ l
  | 0, k, e => by
    unfold dnN at e
    split at e
    · cases e; exact Nat.le_refl _
    · cases e
  | l + 1, k, e => by
    unfold dnN at e
    split at e
    · cases e; exact Nat.le_refl _
    · have := dnN_le S h a c l k e; omega
/-- the least sawdust along the order c, and how high the last one then sits -/
def sdN (S : Nat → Int32) (c : Nat → Nat) : Nat → Option (Nat × Int32)
  | 0 => some (0, highS S (c 0))
  | k + 1 => match sdN S c k with
    | none => none
    | some (t, h) => match dnN S h (c k) (c (k + 1)) (lgS S (c (k + 1))) with
      | none => none
      | some l => some (t + (lgS S (c (k + 1)) - l), highB (S (5 + c (k + 1))) (nI l) (S (29 + c (k + 1))))
theorem sdN_no {S : Nat → Int32} {c : Nat → Nat} {k : Nat} (h : sdN S c k = none) : ∀ d, sdN S c (k + d) = none
  | 0 => h
  | d + 1 => by
    show sdN S c ((k + d) + 1) = none
    rw [sdN, sdN_no h d]
def ansO (o : Option (Nat × Int32)) : Int32 := match o with
  | none => cNone
  | some (t, _) => nI t
def sdI (S : Nat → Int32) (c : Nat → Nat) (k : Nat) (sm ab hh : Int32) : Prop := (∃ t, sdN S c (k - 1) = some (t, hh) ∧ t ≤ 60 * k ∧ sm = nI t ∧ ab = nI (c (k - 1))) ∨ (sdN S c (k - 1) = none ∧ sm = cNone)
def dnI (S : Nat → Int32) (h : Int32) (a c L : Nat) (u : Int32) : Prop := (∃ l, l ≤ L ∧ u = nI l ∧ dnN S h a c L = dnN S h a c l) ∨ (u = -1 ∧ dnN S h a c L = none)
theorem sdI_s {S : Nat → Int32} {c : Nat → Nat} {k t L : Nat} {hh u x : Int32} (hk : 1 ≤ k) (hs : sdN S c (k - 1) = some (t, hh)) (ht : t ≤ 60 * k) (hL : S (11 + c k) = nI L) (hL6 : L ≤ 60) (hk6 : k ≤ 6)
    (hx : (u = -1 ∧ dnN S hh (c (k - 1)) (c k) L = none) ∨ (∃ l, l ≤ L ∧ u = nI l ∧ dnN S hh (c (k - 1)) (c k) L = some l)) (hh2 : ∀ l, u = nI l → l ≤ 60 → x = highB (S (5 + c k)) (nI l) (S (29 + c k))) : sdI S c (k + 1) (if 0 ≤ u then nI t + S (11 + c k) - u else cNone) (nI (c k)) x := by
  obtain ⟨k, rfl⟩ : ∃ j, k = j + 1 := ⟨k - 1, by omega⟩
  have hlg : lgS S (c (k + 1)) = L := by unfold lgS; rw [hL, nI_clamp (by omega)]
  rw [Nat.add_sub_cancel] at hs hx
  rcases hx with ⟨rfl, hd⟩ | ⟨l, hl, rfl, hd⟩
  · refine Or.inr ⟨?_, if_neg (by decide)⟩
    show sdN S c (k + 1) = none
    rw [sdN, hs]
    dsimp only
    rw [hlg, hd]
  · refine Or.inl ⟨t + (L - l), ?_, by omega, ?_, rfl⟩
    · show sdN S c (k + 1) = _
      rw [sdN, hs]
      dsimp only
      rw [hlg, hd]
      dsimp only
      rw [hh2 l rfl (by omega)]
    · rw [if_pos (nI_pos' (by omega)), hL, nI_add, pk_sub (by omega)]
      congr 1
      omega
set_option maxHeartbeats 4000000 in
set_option maxRecDepth 100000 in
theorem c_X6_sawdust (l : Launch) (G : Gx) (M : Mem) (x i : Int32) (n : Nat) (hn : M 4 2 = nI n) (hn6 : n ≤ 6) (ht : M 0 4 = 0 ↔ n = 0) (hz : ∀ r, r ≤ 7 → M 2 r < 0 ∨ ∃ s, s ≤ 40 ∧ M 2 r = nI s) (hL : ∀ c, c < n → ∃ l, l ≤ 60 ∧ M 4 (11 + c) = nI l) (hF : ∀ c, c < n → ∃ s, s ≤ 20 ∧ M 4 (29 + c) = nI s) : Con l G yX6_sawdust cX6_sawdust 11 (some .int) 3 74 [.ref (gA G 0), .int x, .int i] M (fun (v : Option Value) (M' : Mem) => (∃ u, loN M n x i u M' ∧ v = some (Value.int u)) ∨ (∃ r p, loZ M n x i r p ∧ rI (ansO (sdN (M 4) (cI (fun j => M 3 (40 * r + p + j))) (n - 1))) (mset M 0 3 (nI 0)) v M')) := by
  refine Con.ofV [some (.ref (gA G 0)), some (.int x), some (.int i), none, none, none, none, none, none, none, none] RX6 (by decide) rfl (Nat.le_of_ble_eq_true rfl) rfl ?_
  intro κ hl hG hk0 hn0
  subst hl hG
  have hcs : κ.k ≤ 0 ∧ κ.n ≤ 0 := ⟨Nat.le_of_eq hk0, Nat.le_of_eq hn0⟩
  generalize hPP : (fun (v : Option Value) (M' : Mem) => (∃ u, loN M n x i u M' ∧ v = some (Value.int u)) ∨ (∃ r p, loZ M n x i r p ∧ rI (ansO (sdN (M 4) (cI (fun j => M 3 (40 * r + p + j))) (n - 1))) (mset M 0 3 (nI 0)) v M')) = PP
  have J6 : ∀ (u : Int32) (N : Mem), ((u < 0 ∧ PP (some (Value.int u)) N) ∨ (u = nI 0 ∧ M = N ∧ ∃ r p, loZ M n x i r p)) → V κ cX6_sawdust RX6 11 (some .int) (rmx 3 74) (QM κ PP) N 6 [some (.ref (gA κ.G 0)), some (.int x), some (.int i), none, none, none, none, none, none, none, none] [.int u] := by
    intro u N hu
    refine r_st_n [_, _, _, _, _, _, _, _, _, _, _] (pc := 6) dX6_sawdust_6 (by decide) rfl rfl ?_
    refine r_iload_n (pc := 7) dX6_sawdust_7 rfl ?_
    refine r_if_ge (tgt := 13) (pc := 8) dX6_sawdust_8 (by decide) (fun h8 => ?_) (fun h8 => ?_)
    · obtain ⟨rfl, hMN, r, p, hlz⟩ := hu.resolve_left (fun z => absurd h8 (Int32.not_le.mpr z.1))
      subst hMN
      obtain ⟨hn1, hr, rfl, rfl, hpn, hlc, hok⟩ := id hlz
      have hc := fun j (h : j < n) => okN_c hok h hn6
      refine r_bipush (v := nI 40) (pc := 13) dX6_sawdust_13 (by decide) ?_
      refine r_iload_n (pc := 15) dX6_sawdust_15 rfl ?_
      first | with_reducible refine r_imulN (pc := 16) dX6_sawdust_16 ?_ | refine r_imul (pc := 16) dX6_sawdust_16 ?_
      refine r_iload_n (pc := 17) dX6_sawdust_17 rfl ?_
      first | with_reducible refine r_iaddN (pc := 18) dX6_sawdust_18 ?_ | refine r_iadd (pc := 18) dX6_sawdust_18 ?_
      refine r_st [_, _, _, _, _, _, _, _, _, _, _] (pc := 19) dX6_sawdust_19 (by decide) rfl rfl ?_
      refine r_iconst (v := nI 0) (pc := 21) dX6_sawdust_21 (by decide) ?_
      refine r_st [_, _, _, _, _, _, _, _, _, _, _] (pc := 22) dX6_sawdust_22 (by decide) rfl rfl ?_
      refine r_aload_n (pc := 24) dX6_sawdust_24 rfl ?_
      refine gf_X6_16 (pc := 25) dX6_sawdust_25 rfl ?_
      refine r_iload (pc := 28) dX6_sawdust_28 rfl ?_
      refine r_iald (pc := 30) dX6_sawdust_30 rfl (show _ < 320 by omega) ?_
      refine r_is (nI ((cI (fun j => M 3 (40 * r + p + j))) 0)) (hc 0 hn1).1 ?_
      refine r_st [_, _, _, _, _, _, _, _, _, _, _] (pc := 31) dX6_sawdust_31 (by decide) rfl rfl ?_
      refine r_aload_n (pc := 33) dX6_sawdust_33 rfl ?_
      refine r_iload (pc := 34) dX6_sawdust_34 rfl ?_
      refine iv_X6_146 (c_X6_highOf _ _ _ _ (by have := (hc 0 hn1).2; omega)) (pc := 36) dX6_sawdust_36 rfl ⟨Nat.le_of_ble_eq_true rfl, Nat.le_of_ble_eq_true rfl⟩ (Nat.le_of_ble_eq_true rfl) hcs (kI ?_)
      refine r_st [_, _, _, _, _, _, _, _, _, _, _] (pc := 39) dX6_sawdust_39 (by decide) rfl rfl ?_
      refine r_iconst (v := nI 1) (pc := 41) dX6_sawdust_41 (by decide) ?_
      refine r_st [_, _, _, _, _, _, _, _, _, _, _] (pc := 42) dX6_sawdust_42 (by decide) rfl rfl ?_
      refine V.bk (loopV (fun (σ : Nat × Int32 × Int32 × Int32) => V κ cX6_sawdust RX6 11 (some .int) (rmx 3 74) (QM κ PP) M 44 [some (.ref (gA κ.G 0)), some (.int (nI r)), some (.int (nI p)), none, some (.int (nI (40 * r + p))), some (.int (σ.2.1)), some (.int (σ.2.2.1)), some (.int (σ.2.2.2)), some (.int (nI (σ.1))), none, none] []) (fun (σ : Nat × Int32 × Int32 × Int32) => 1 ≤ (σ.1) ∧ (σ.1) ≤ n ∧ sdI (M 4) (cI (fun j => M 3 (40 * r + p + j))) (σ.1) (σ.2.1) (σ.2.2.1) (σ.2.2.2)) (fun (σ : Nat × Int32 × Int32 × Int32) => n - (σ.1)) ?_ (1, nI 0, _, _) ⟨Nat.le_refl _, hn1, Or.inl ⟨0, rfl, by omega, rfl, rfl⟩⟩) rfl (by (repeat (first | exact wk_0 | refine wk_n ?_ | refine wk_s rfl ?_)); done)
      rintro ⟨k, sm, ab, hh⟩ hI0 ih
      dsimp only at hI0 ih
      obtain ⟨hk1, hkn, hI⟩ := hI0
      show V κ cX6_sawdust RX6 11 (some .int) (rmx 3 74) (QM κ PP) M 44 [some (.ref (gA κ.G 0)), some (.int (nI r)), some (.int (nI p)), none, some (.int (nI (40 * r + p))), some (.int sm), some (.int ab), some (.int hh), some (.int (nI k)), none, none] []
      refine r_iload (pc := 44) dX6_sawdust_44 rfl ?_
      refine r_aload_n (pc := 46) dX6_sawdust_46 rfl ?_
      refine gf_X6_19 (pc := 47) dX6_sawdust_47 rfl ?_
      refine r_iconst (v := nI 2) (pc := 50) dX6_sawdust_50 (by decide) ?_
      refine r_iald (pc := 51) dX6_sawdust_51 rfl (show _ < 41 by omega) ?_
      refine r_is (nI n) hn ?_
      refine r_icmp_ge (tgt := 204) (pc := 52) dX6_sawdust_52 (by decide) (fun h52 => ?_) (fun h52 => ?_)
      · have h52 : n ≤ k := (nI_leI (by omega) (by omega)).mp h52
        refine r_aload_n (pc := 204) dX6_sawdust_204 rfl ?_
        refine r_iload (pc := 205) dX6_sawdust_205 rfl ?_
        refine iv_X6_72 (c_X6_well _ _ _ _) (pc := 207) dX6_sawdust_207 rfl ⟨Nat.le_of_ble_eq_true rfl, Nat.le_of_ble_eq_true rfl⟩ (Nat.le_of_ble_eq_true rfl) hcs (kI ?_)
        exact r_iret (pc := 210) dX6_sawdust_210 rfl (by subst hPP; exact (Or.inr ⟨r, p, hlz, by
              rcases hI with ⟨t, hst, ht6, rfl, -⟩ | ⟨hst, rfl⟩
              · first
                  | exact absurd h57 (nI_pos (by omega))
                  | (rw [show n - 1 = k - 1 by omega, hst]; rfl)
              · rw [show n - 1 = (k - 1) + (n - k) by omega, sdN_no hst]; rfl, rfl⟩))
      · have h52 : k < n := Nat.not_le.mp (fun z => h52 ((nI_leI (by omega) (by omega)).mpr z))
        refine r_iload (pc := 55) dX6_sawdust_55 rfl ?_
        refine r_if_lt (tgt := 204) (pc := 57) dX6_sawdust_57 (by decide) (fun h57 => ?_) (fun h57 => ?_)
        · refine r_aload_n (pc := 204) dX6_sawdust_204 rfl ?_
          refine r_iload (pc := 205) dX6_sawdust_205 rfl ?_
          refine iv_X6_72 (c_X6_well _ _ _ _) (pc := 207) dX6_sawdust_207 rfl ⟨Nat.le_of_ble_eq_true rfl, Nat.le_of_ble_eq_true rfl⟩ (Nat.le_of_ble_eq_true rfl) hcs (kI ?_)
          exact r_iret (pc := 210) dX6_sawdust_210 rfl (by subst hPP; exact (Or.inr ⟨r, p, hlz, by
                rcases hI with ⟨t, hst, ht6, rfl, -⟩ | ⟨hst, rfl⟩
                · first
                    | exact absurd h57 (nI_pos (by omega))
                    | (rw [show n - 1 = k - 1 by omega, hst]; rfl)
                · rw [show n - 1 = (k - 1) + (n - k) by omega, sdN_no hst]; rfl, rfl⟩))
        · obtain ⟨t, hst, ht6, rfl, rfl⟩ := hI.resolve_right (fun z => h57 (by rw [z.2]; decide))
          obtain ⟨L, hL6, eL⟩ := hL _ (hc k h52).2
          refine r_aload_n (pc := 60) dX6_sawdust_60 rfl ?_
          refine gf_X6_16 (pc := 61) dX6_sawdust_61 rfl ?_
          refine r_iload (pc := 64) dX6_sawdust_64 rfl ?_
          refine r_iload (pc := 66) dX6_sawdust_66 rfl ?_
          first | with_reducible refine r_iaddN (pc := 68) dX6_sawdust_68 ?_ | refine r_iadd (pc := 68) dX6_sawdust_68 ?_
          refine r_iald (pc := 69) dX6_sawdust_69 rfl (show _ < 320 by omega) ?_
          refine r_is (nI ((cI (fun j => M 3 (40 * r + p + j))) k)) (hc k h52).1 ?_
          refine r_st [_, _, _, _, _, _, _, _, _, _, _] (pc := 70) dX6_sawdust_70 (by decide) rfl rfl ?_
          refine r_aload_n (pc := 72) dX6_sawdust_72 rfl ?_
          refine gf_X6_19 (pc := 73) dX6_sawdust_73 rfl ?_
          refine r_bipush (v := nI 11) (pc := 76) dX6_sawdust_76 (by decide) ?_
          refine r_iload (pc := 78) dX6_sawdust_78 rfl ?_
          first | with_reducible refine r_iaddN (pc := 80) dX6_sawdust_80 ?_ | refine r_iadd (pc := 80) dX6_sawdust_80 ?_
          refine r_iald (pc := 81) dX6_sawdust_81 rfl (show _ < 41 by (have := (hc k h52).2; omega)) ?_
          refine r_st [_, _, _, _, _, _, _, _, _, _, _] (pc := 82) dX6_sawdust_82 (by decide) rfl rfl ?_
          refine V.bk (loopV (fun (σ : Int32) => V κ cX6_sawdust RX6 11 (some .int) (rmx 3 74) (QM κ PP) M 84 [some (.ref (gA κ.G 0)), some (.int (nI r)), some (.int (nI p)), none, some (.int (nI (40 * r + p))), some (.int (nI t)), some (.int (nI ((cI (fun j => M 3 (40 * r + p + j))) (k - 1)))), some (.int hh), some (.int (nI k)), some (.int (nI ((cI (fun j => M 3 (40 * r + p + j))) k))), some (.int σ)] []) (fun (σ : Int32) => dnI (M 4) hh ((cI (fun j => M 3 (40 * r + p + j))) (k - 1)) ((cI (fun j => M 3 (40 * r + p + j))) k) L σ) (fun (σ : Int32) => (σ.toInt + 1).toNat) ?_ _ (Or.inl ⟨L, Nat.le_refl _, eL, rfl⟩)) rfl (by (repeat (first | exact wk_0 | refine wk_n ?_ | refine wk_s rfl ?_)); done)
          rintro w hw ih2
          show V κ cX6_sawdust RX6 11 (some .int) (rmx 3 74) (QM κ PP) M 84 [some (.ref (gA κ.G 0)), some (.int (nI r)), some (.int (nI p)), none, some (.int (nI (40 * r + p))), some (.int (nI t)), some (.int (nI ((cI (fun j => M 3 (40 * r + p + j))) (k - 1)))), some (.int hh), some (.int (nI k)), some (.int (nI ((cI (fun j => M 3 (40 * r + p + j))) k))), some (.int w)] []
          refine r_iload (pc := 84) dX6_sawdust_84 rfl ?_
          refine r_if_lt (tgt := 131) (pc := 86) dX6_sawdust_86 (by decide) (fun h86 => ?_) (fun h86 => ?_)
          · have hx : (w = -1 ∧ dnN (M 4) hh ((cI (fun j => M 3 (40 * r + p + j))) (k - 1)) ((cI (fun j => M 3 (40 * r + p + j))) k) L = none) ∨ (∃ l, l ≤ L ∧ w = nI l ∧ dnN (M 4) hh ((cI (fun j => M 3 (40 * r + p + j))) (k - 1)) ((cI (fun j => M 3 (40 * r + p + j))) k) L = some l) := by
              rcases hw with ⟨l, h1, h2, h3⟩ | h
              · exact absurd h86 (by rw [h2]; exact nI_pos (by omega))
              · exact Or.inl h
            refine r_iload (pc := 131) dX6_sawdust_131 rfl ?_
            refine t_if_ge (tgt := 141) (J := 157) (a := ?pA133x1) (b := ?pB133x1) (pc := 133) dX6_sawdust_133 (by decide) (fun k133x1 => ?pT133x1) (fun k133x1 => ?pF133x1) ?pK133x1
            case pT133x1 =>
              refine r_iload (pc := 141) dX6_sawdust_141 rfl ?_
              refine r_aload_n (pc := 143) dX6_sawdust_143 rfl ?_
              refine gf_X6_19 (pc := 144) dX6_sawdust_144 rfl ?_
              refine r_bipush (v := nI 11) (pc := 147) dX6_sawdust_147 (by decide) ?_
              refine r_iload (pc := 149) dX6_sawdust_149 rfl ?_
              first | with_reducible refine r_iaddN (pc := 151) dX6_sawdust_151 ?_ | refine r_iadd (pc := 151) dX6_sawdust_151 ?_
              refine r_iald (pc := 152) dX6_sawdust_152 rfl (show _ < 41 by (have := (hc k h52).2; omega)) ?_
              first | with_reducible refine r_iaddN (pc := 153) dX6_sawdust_153 ?_ | refine r_iadd (pc := 153) dX6_sawdust_153 ?_
              refine r_iload (pc := 154) dX6_sawdust_154 rfl ?_
              first | (with_reducible refine r_isubN (pc := 156) dX6_sawdust_156 ?hle ?_; case hle => omega) | refine r_isub (pc := 156) dX6_sawdust_156 ?_
              exact k133x1
            case pF133x1 =>
              refine r_ldc (pc := 136) dX6_sawdust_136 lk_X6_149 ?_
              refine r_goto (tgt := 157) (pc := 138) dX6_sawdust_138 (by decide) ?_
              exact k133x1
            case pK133x1 =>
              refine r_st [_, _, _, _, _, _, _, _, _, _, _] (pc := 157) dX6_sawdust_157 (by decide) rfl rfl ?_
              refine r_iload (pc := 159) dX6_sawdust_159 rfl ?_
              refine r_st [_, _, _, _, _, _, _, _, _, _, _] (pc := 161) dX6_sawdust_161 (by decide) rfl rfl ?_
              refine r_iload (pc := 163) dX6_sawdust_163 rfl ?_
              refine r_if_ge (tgt := 172) (pc := 165) dX6_sawdust_165 (by decide) (fun h165 => ?_) (fun h165 => ?_)
              · have ex : ∀ l, w = nI l → l ≤ 60 → highB (M 4 (5 + (cI (fun j => M 3 (40 * r + p + j))) k)) w (M 4 (29 + (cI (fun j => M 3 (40 * r + p + j))) k)) = highB (M 4 (5 + (cI (fun j => M 3 (40 * r + p + j))) k)) (nI l) (M 4 (29 + (cI (fun j => M 3 (40 * r + p + j))) k)) := fun l e _ => by rw [e]
                refine r_aload_n (pc := 172) dX6_sawdust_172 rfl ?_
                refine gf_X6_19 (pc := 173) dX6_sawdust_173 rfl ?_
                refine r_iconst (v := nI 5) (pc := 176) dX6_sawdust_176 (by decide) ?_
                refine r_iload (pc := 177) dX6_sawdust_177 rfl ?_
                first | with_reducible refine r_iaddN (pc := 179) dX6_sawdust_179 ?_ | refine r_iadd (pc := 179) dX6_sawdust_179 ?_
                refine r_iald (pc := 180) dX6_sawdust_180 rfl (show _ < 41 by (have := (hc k h52).2; omega)) ?_
                refine r_iload (pc := 181) dX6_sawdust_181 rfl ?_
                refine r_aload_n (pc := 183) dX6_sawdust_183 rfl ?_
                refine gf_X6_19 (pc := 184) dX6_sawdust_184 rfl ?_
                refine r_bipush (v := nI 29) (pc := 187) dX6_sawdust_187 (by decide) ?_
                refine r_iload (pc := 189) dX6_sawdust_189 rfl ?_
                first | with_reducible refine r_iaddN (pc := 191) dX6_sawdust_191 ?_ | refine r_iadd (pc := 191) dX6_sawdust_191 ?_
                refine r_iald (pc := 192) dX6_sawdust_192 rfl (show _ < 41 by (have := (hc k h52).2; omega)) ?_
                refine iv_X6_142 (c_X6_highBy _ _ _ _ _ _) (pc := 193) dX6_sawdust_193 ⟨Nat.le_of_ble_eq_true rfl, Nat.le_of_ble_eq_true rfl⟩ (Nat.le_of_ble_eq_true rfl) hcs (kI ?_)
                refine r_st [_, _, _, _, _, _, _, _, _, _, _] (pc := 196) dX6_sawdust_196 (by decide) rfl rfl ?_
                first | refine r_inc [_, _, _, _, _, _, _, _, _, _, _] (pc := 198) dX6_sawdust_198 rfl (nI_inc _) (by decide) rfl rfl ?_ | refine r_inc [_, _, _, _, _, _, _, _, _, _, _] (pc := 198) dX6_sawdust_198 rfl rfl (by decide) rfl rfl ?_
                refine r_goto (tgt := 44) (pc := 201) dX6_sawdust_201 (by decide) ?_
                exact V.bk (ih (k + 1, _, _, _) ⟨by omega, by omega, sdI_s hk1 hst ht6 eL hL6 (by omega) hx ex⟩ (by omega)) rfl (by (repeat (first | exact wk_0 | refine wk_n ?_ | refine wk_s rfl ?_)); done)
              · have ex : ∀ l, w = nI l → l ≤ 60 → nI 0 = highB (M 4 (5 + (cI (fun j => M 3 (40 * r + p + j))) k)) (nI l) (M 4 (29 + (cI (fun j => M 3 (40 * r + p + j))) k)) := fun l e h => absurd (by rw [e]; exact nI_pos' (by omega)) h165
                refine r_iconst (v := nI 0) (pc := 168) dX6_sawdust_168 (by decide) ?_
                refine r_goto (tgt := 196) (pc := 169) dX6_sawdust_169 (by decide) ?_
                refine r_st [_, _, _, _, _, _, _, _, _, _, _] (pc := 196) dX6_sawdust_196 (by decide) rfl rfl ?_
                first | refine r_inc [_, _, _, _, _, _, _, _, _, _, _] (pc := 198) dX6_sawdust_198 rfl (nI_inc _) (by decide) rfl rfl ?_ | refine r_inc [_, _, _, _, _, _, _, _, _, _, _] (pc := 198) dX6_sawdust_198 rfl rfl (by decide) rfl rfl ?_
                refine r_goto (tgt := 44) (pc := 201) dX6_sawdust_201 (by decide) ?_
                exact V.bk (ih (k + 1, _, _, _) ⟨by omega, by omega, sdI_s hk1 hst ht6 eL hL6 (by omega) hx ex⟩ (by omega)) rfl (by (repeat (first | exact wk_0 | refine wk_n ?_ | refine wk_s rfl ?_)); done)
          · obtain ⟨l, hl, ew, edn⟩ := hw.resolve_right (fun z => h86 (by rw [z.1]; decide))
            refine r_iload (pc := 89) dX6_sawdust_89 rfl ?_
            refine r_iload (pc := 91) dX6_sawdust_91 rfl ?_
            refine r_aload_n (pc := 93) dX6_sawdust_93 rfl ?_
            refine gf_X6_19 (pc := 94) dX6_sawdust_94 rfl ?_
            refine r_iconst (v := nI 5) (pc := 97) dX6_sawdust_97 (by decide) ?_
            refine r_iload (pc := 98) dX6_sawdust_98 rfl ?_
            first | with_reducible refine r_iaddN (pc := 100) dX6_sawdust_100 ?_ | refine r_iadd (pc := 100) dX6_sawdust_100 ?_
            refine r_iald (pc := 101) dX6_sawdust_101 rfl (show _ < 41 by (have := (hc k h52).2; omega)) ?_
            refine r_iload (pc := 102) dX6_sawdust_102 rfl ?_
            refine r_aload_n (pc := 104) dX6_sawdust_104 rfl ?_
            refine gf_X6_19 (pc := 105) dX6_sawdust_105 rfl ?_
            refine r_bipush (v := nI 29) (pc := 108) dX6_sawdust_108 (by decide) ?_
            refine r_iload (pc := 110) dX6_sawdust_110 rfl ?_
            first | with_reducible refine r_iaddN (pc := 112) dX6_sawdust_112 ?_ | refine r_iadd (pc := 112) dX6_sawdust_112 ?_
            refine r_iald (pc := 113) dX6_sawdust_113 rfl (show _ < 41 by (have := (hc k h52).2; omega)) ?_
            refine iv_X6_142 (c_X6_highBy _ _ _ _ _ _) (pc := 114) dX6_sawdust_114 ⟨Nat.le_of_ble_eq_true rfl, Nat.le_of_ble_eq_true rfl⟩ (Nat.le_of_ble_eq_true rfl) hcs (kI ?_)
            refine r_iload (pc := 117) dX6_sawdust_117 rfl ?_
            refine iv_X6_226 (c_X6_isAbove _ _ _ _ _ _ _) (pc := 119) dX6_sawdust_119 ⟨Nat.le_of_ble_eq_true rfl, Nat.le_of_ble_eq_true rfl⟩ (Nat.le_of_ble_eq_true rfl) hcs (kI ?_)
            refine r_ifne_b (tgt := 131) (pc := 122) dX6_sawdust_122 (by decide) (fun h122 => ?_) (fun h122 => ?_)
            · have hx : (w = -1 ∧ dnN (M 4) hh ((cI (fun j => M 3 (40 * r + p + j))) (k - 1)) ((cI (fun j => M 3 (40 * r + p + j))) k) L = none) ∨ (∃ l, l ≤ L ∧ w = nI l ∧ dnN (M 4) hh ((cI (fun j => M 3 (40 * r + p + j))) (k - 1)) ((cI (fun j => M 3 (40 * r + p + j))) k) L = some l) := Or.inr ⟨l, hl, ew, by rw [edn]; exact dnN_t (by rw [← ew]; exact h122)⟩
              refine r_iload (pc := 131) dX6_sawdust_131 rfl ?_
              refine t_if_ge (tgt := 141) (J := 157) (a := ?pA133x2) (b := ?pB133x2) (pc := 133) dX6_sawdust_133 (by decide) (fun k133x2 => ?pT133x2) (fun k133x2 => ?pF133x2) ?pK133x2
              case pT133x2 =>
                refine r_iload (pc := 141) dX6_sawdust_141 rfl ?_
                refine r_aload_n (pc := 143) dX6_sawdust_143 rfl ?_
                refine gf_X6_19 (pc := 144) dX6_sawdust_144 rfl ?_
                refine r_bipush (v := nI 11) (pc := 147) dX6_sawdust_147 (by decide) ?_
                refine r_iload (pc := 149) dX6_sawdust_149 rfl ?_
                first | with_reducible refine r_iaddN (pc := 151) dX6_sawdust_151 ?_ | refine r_iadd (pc := 151) dX6_sawdust_151 ?_
                refine r_iald (pc := 152) dX6_sawdust_152 rfl (show _ < 41 by (have := (hc k h52).2; omega)) ?_
                first | with_reducible refine r_iaddN (pc := 153) dX6_sawdust_153 ?_ | refine r_iadd (pc := 153) dX6_sawdust_153 ?_
                refine r_iload (pc := 154) dX6_sawdust_154 rfl ?_
                first | (with_reducible refine r_isubN (pc := 156) dX6_sawdust_156 ?hle ?_; case hle => omega) | refine r_isub (pc := 156) dX6_sawdust_156 ?_
                exact k133x2
              case pF133x2 =>
                refine r_ldc (pc := 136) dX6_sawdust_136 lk_X6_149 ?_
                refine r_goto (tgt := 157) (pc := 138) dX6_sawdust_138 (by decide) ?_
                exact k133x2
              case pK133x2 =>
                refine r_st [_, _, _, _, _, _, _, _, _, _, _] (pc := 157) dX6_sawdust_157 (by decide) rfl rfl ?_
                refine r_iload (pc := 159) dX6_sawdust_159 rfl ?_
                refine r_st [_, _, _, _, _, _, _, _, _, _, _] (pc := 161) dX6_sawdust_161 (by decide) rfl rfl ?_
                refine r_iload (pc := 163) dX6_sawdust_163 rfl ?_
                refine r_if_ge (tgt := 172) (pc := 165) dX6_sawdust_165 (by decide) (fun h165 => ?_) (fun h165 => ?_)
                · have ex : ∀ l, w = nI l → l ≤ 60 → highB (M 4 (5 + (cI (fun j => M 3 (40 * r + p + j))) k)) w (M 4 (29 + (cI (fun j => M 3 (40 * r + p + j))) k)) = highB (M 4 (5 + (cI (fun j => M 3 (40 * r + p + j))) k)) (nI l) (M 4 (29 + (cI (fun j => M 3 (40 * r + p + j))) k)) := fun l e _ => by rw [e]
                  refine r_aload_n (pc := 172) dX6_sawdust_172 rfl ?_
                  refine gf_X6_19 (pc := 173) dX6_sawdust_173 rfl ?_
                  refine r_iconst (v := nI 5) (pc := 176) dX6_sawdust_176 (by decide) ?_
                  refine r_iload (pc := 177) dX6_sawdust_177 rfl ?_
                  first | with_reducible refine r_iaddN (pc := 179) dX6_sawdust_179 ?_ | refine r_iadd (pc := 179) dX6_sawdust_179 ?_
                  refine r_iald (pc := 180) dX6_sawdust_180 rfl (show _ < 41 by (have := (hc k h52).2; omega)) ?_
                  refine r_iload (pc := 181) dX6_sawdust_181 rfl ?_
                  refine r_aload_n (pc := 183) dX6_sawdust_183 rfl ?_
                  refine gf_X6_19 (pc := 184) dX6_sawdust_184 rfl ?_
                  refine r_bipush (v := nI 29) (pc := 187) dX6_sawdust_187 (by decide) ?_
                  refine r_iload (pc := 189) dX6_sawdust_189 rfl ?_
                  first | with_reducible refine r_iaddN (pc := 191) dX6_sawdust_191 ?_ | refine r_iadd (pc := 191) dX6_sawdust_191 ?_
                  refine r_iald (pc := 192) dX6_sawdust_192 rfl (show _ < 41 by (have := (hc k h52).2; omega)) ?_
                  refine iv_X6_142 (c_X6_highBy _ _ _ _ _ _) (pc := 193) dX6_sawdust_193 ⟨Nat.le_of_ble_eq_true rfl, Nat.le_of_ble_eq_true rfl⟩ (Nat.le_of_ble_eq_true rfl) hcs (kI ?_)
                  refine r_st [_, _, _, _, _, _, _, _, _, _, _] (pc := 196) dX6_sawdust_196 (by decide) rfl rfl ?_
                  first | refine r_inc [_, _, _, _, _, _, _, _, _, _, _] (pc := 198) dX6_sawdust_198 rfl (nI_inc _) (by decide) rfl rfl ?_ | refine r_inc [_, _, _, _, _, _, _, _, _, _, _] (pc := 198) dX6_sawdust_198 rfl rfl (by decide) rfl rfl ?_
                  refine r_goto (tgt := 44) (pc := 201) dX6_sawdust_201 (by decide) ?_
                  exact V.bk (ih (k + 1, _, _, _) ⟨by omega, by omega, sdI_s hk1 hst ht6 eL hL6 (by omega) hx ex⟩ (by omega)) rfl (by (repeat (first | exact wk_0 | refine wk_n ?_ | refine wk_s rfl ?_)); done)
                · have ex : ∀ l, w = nI l → l ≤ 60 → nI 0 = highB (M 4 (5 + (cI (fun j => M 3 (40 * r + p + j))) k)) (nI l) (M 4 (29 + (cI (fun j => M 3 (40 * r + p + j))) k)) := fun l e h => absurd (by rw [e]; exact nI_pos' (by omega)) h165
                  refine r_iconst (v := nI 0) (pc := 168) dX6_sawdust_168 (by decide) ?_
                  refine r_goto (tgt := 196) (pc := 169) dX6_sawdust_169 (by decide) ?_
                  refine r_st [_, _, _, _, _, _, _, _, _, _, _] (pc := 196) dX6_sawdust_196 (by decide) rfl rfl ?_
                  first | refine r_inc [_, _, _, _, _, _, _, _, _, _, _] (pc := 198) dX6_sawdust_198 rfl (nI_inc _) (by decide) rfl rfl ?_ | refine r_inc [_, _, _, _, _, _, _, _, _, _, _] (pc := 198) dX6_sawdust_198 rfl rfl (by decide) rfl rfl ?_
                  refine r_goto (tgt := 44) (pc := 201) dX6_sawdust_201 (by decide) ?_
                  exact V.bk (ih (k + 1, _, _, _) ⟨by omega, by omega, sdI_s hk1 hst ht6 eL hL6 (by omega) hx ex⟩ (by omega)) rfl (by (repeat (first | exact wk_0 | refine wk_n ?_ | refine wk_s rfl ?_)); done)
            · have hw2 : dnI (M 4) hh ((cI (fun j => M 3 (40 * r + p + j))) (k - 1)) ((cI (fun j => M 3 (40 * r + p + j))) k) L (w + Int32.ofInt (-1)) := by
                have e1 := dnN_f (S := M 4) (h := hh) (a := (cI (fun j => M 3 (40 * r + p + j))) (k - 1)) (c := (cI (fun j => M 3 (40 * r + p + j))) k) (l := l) (by rw [← ew]; exact h122)
                cases l with
                | zero => exact Or.inr ⟨by rw [ew]; decide, by rw [edn, e1]; rfl⟩
                | succ l => exact Or.inl ⟨l, by omega, by rw [ew]; exact nI_decp l, by rw [edn, e1]; rfl⟩
              have hwm : (w + Int32.ofInt (-1)).toInt = w.toInt - 1 := by
                rw [ew]
                cases l with
                | zero => decide
                | succ l => rw [nI_decp, nI_toInt (by omega), nI_toInt (by omega)]; omega
              have hwp : 0 ≤ w.toInt := by rw [ew, nI_toInt (by omega)]; omega
              have hmu : ((w + Int32.ofInt (-1)).toInt + 1).toNat < (w.toInt + 1).toNat := by
                rw [hwm]
                clear hwm hw2 ih ih2
                generalize w.toInt = z at hwp ⊢
                omega
              generalize hwe : w + Int32.ofInt (-1) = w2 at hw2 hmu
              refine r_inc [_, _, _, _, _, _, _, _, _, _, _] (pc := 125) dX6_sawdust_125 rfl hwe (by decide) rfl rfl ?_
              refine r_goto (tgt := 84) (pc := 128) dX6_sawdust_128 (by decide) ?_
              exact V.bk (ih2 w2 hw2 hmu) rfl (by (repeat (first | exact wk_0 | refine wk_n ?_ | refine wk_s rfl ?_)); done)
    · refine r_iload_n (pc := 11) dX6_sawdust_11 rfl ?_
      exact r_iret (pc := 12) dX6_sawdust_12 rfl (by subst hPP; exact (hu.elim (fun z => z.2) (fun z => absurd (by rw [z.1]; decide) h8)))
  refine r_aload_n (pc := 0) dX6_sawdust_0 rfl ?_
  refine r_iload_n (pc := 1) dX6_sawdust_1 rfl ?_
  refine r_iload_n (pc := 2) dX6_sawdust_2 rfl ?_
  refine iv_X6_223 (c_X6_lacksOrder _ _ _ _ _ n hn hn6 ht hz) (pc := 3) dX6_sawdust_3 rfl ⟨Nat.le_of_ble_eq_true rfl, Nat.le_of_ble_eq_true rfl⟩ (Nat.le_of_ble_eq_true rfl) hcs (fun v3 N3 h3 => ?_)
  rcases h3 with ⟨u, hlo, rfl⟩ | ⟨r, p, hz0, rfl, rfl⟩
  · exact J6 _ _ (Or.inl ⟨loN_neg hlo, by subst hPP; exact Or.inl ⟨_, hlo, rfl⟩⟩)
  · exact J6 _ _ (Or.inr ⟨rfl, rfl, r, p, hz0⟩)
