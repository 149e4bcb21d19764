def seenN (I : Nat → Int32) : Nat → Int32
  | 0 => nI 0
  | j + 1 => seenN I j ||| nI 1 <<< (I j &&& 31)
/-- the first j of them are chairs, each but once -/
def okN (I : Nat → Int32) (n j : Nat) : Prop := ∀ i, i < j → chG n (I i) ∧ ¬ hasB (seenN I i) (I i)
def loN (M : Mem) (n : Nat) (x i u : Int32) (N : Mem) : Prop :=
  (n = 0 ∧ u = cState ∧ N = M) ∨ (0 < n ∧ ¬ rgG 0 7 x ∧ u = cBad ∧ N = M) ∨ (0 < n ∧ ∃ r c, r ≤ 7 ∧ x = nI r ∧ LC (M 2 r) i n c ∧ c ≠ 0 ∧ c ≤ 2 ∧ u = fnV c ∧ N = mset M 0 3 (nI c)) ∨
  (0 < n ∧ ∃ r p, r ≤ 7 ∧ x = nI r ∧ i = nI p ∧ p + n ≤ 40 ∧ LC (M 2 r) i n 0 ∧ ¬ okN (fun j => M 3 (40 * r + p + j)) n n ∧ u = fnV 3 ∧ N = mset M 0 3 (nI 3))
def loZ (M : Mem) (n : Nat) (x i : Int32) (r p : Nat) : Prop := 0 < n ∧ r ≤ 7 ∧ x = nI r ∧ i = nI p ∧ p + n ≤ 40 ∧ LC (M 2 r) i n 0 ∧ okN (fun j => M 3 (40 * r + p + j)) n n
theorem fnV_neg {c : Nat} (h : c ≤ 5) : fnV c < 0 := by
  have : ∀ c : Nat, c ≤ 5 → fnV c < 0 := by decide
  exact this c h
theorem loN_neg {M N : Mem} {n : Nat} {x i u : Int32} (h : loN M n x i u N) : u < 0 := by
  rcases h with ⟨-, h, -⟩ | ⟨-, -, h, -⟩ | ⟨-, r, c, -, -, -, -, hc, h, -⟩ | ⟨-, r, p, -, -, -, -, -, -, h, -⟩
  · rw [h]; decide
  · rw [h]; decide
  · rw [h]; exact fnV_neg (by omega)
  · rw [h]; exact fnV_neg (by omega)
theorem LC_0 {z i : Int32} {m : Nat} (h : LC z i m 0) : ∃ s p, z = nI s ∧ s ≤ 40 ∧ i = nI p ∧ p + m ≤ s := by
  rcases h with ⟨h, -⟩ | ⟨s, h1, h2, h3⟩
  · omega
  · rcases h3 with ⟨-, p, h4, h5⟩ | ⟨h, -⟩
    · exact ⟨s, p, h1, h2, h4, h5⟩
    · omega
set_option maxHeartbeats 4000000 in
set_option maxRecDepth 100000 in
theorem c_X6_lacks (l : Launch) (G : Gx) (M : Mem) (r m : Nat) (i : Int32) (hr : r ≤ 7) (hm : m ≤ 40) (hz : ∀ r, r ≤ 7 → M 2 r < 0 ∨ ∃ s, s ≤ 40 ∧ M 2 r = nI s) : Con l G yX6_lacks cX6_lacks 4 (some .int) 1 25 [.ref (gA G 0), .int (nI r), .int i, .int (nI m)] M (fun v M' => ∃ c, LC (M 2 r) i m c ∧ ((c = 0 ∧ rI (nI 0) M v M') ∨ (c ≠ 0 ∧ c ≤ 2 ∧ rI (fnV c) (mset M 0 3 (nI c)) v M'))) := by
  refine Con.ofV [some (.ref (gA G 0)), some (.int (nI r)), some (.int i), some (.int (nI m))] RX6 (by decide) rfl (Nat.le_of_ble_eq_true rfl) rfl ?_
  intro κ hl hG hk0 hn0
  subst hl hG
  have hcs : κ.k ≤ 0 ∧ κ.n ≤ 0 := ⟨Nat.le_of_eq hk0, Nat.le_of_eq hn0⟩
  generalize hPP : (fun v M' => ∃ c, LC (M 2 r) i m c ∧ ((c = 0 ∧ rI (nI 0) M v M') ∨ (c ≠ 0 ∧ c ≤ 2 ∧ rI (fnV c) (mset M 0 3 (nI c)) v M'))) = PP
  refine r_aload_n (pc := 0) dX6_lacks_0 rfl ?_
  refine gf_X6_13 (pc := 1) dX6_lacks_1 rfl ?_
  refine r_iload_n (pc := 4) dX6_lacks_4 rfl ?_
  refine r_iald (pc := 5) dX6_lacks_5 rfl (show _ < 8 by omega) ?_
  refine r_if_ge (tgt := 15) (pc := 6) dX6_lacks_6 (by decide) (fun h6 => ?_) (fun h6 => ?_)
  · obtain ⟨s, hs, es⟩ : ∃ s, s ≤ 40 ∧ M 2 r = nI s := (hz r hr).resolve_left (fun z => absurd h6 (Int32.not_le.mpr z))
    refine r_iload_n (pc := 15) dX6_lacks_15 rfl ?_
    refine r_i2l (pc := 16) dX6_lacks_16 ?_
    refine r_lconst (v := (nI 0).toInt64) (pc := 17) dX6_lacks_17 (by decide) ?_
    refine r_aload_n (pc := 18) dX6_lacks_18 rfl ?_
    refine gf_X6_13 (pc := 19) dX6_lacks_19 rfl ?_
    refine r_iload_n (pc := 22) dX6_lacks_22 rfl ?_
    refine r_iald (pc := 23) dX6_lacks_23 rfl (show _ < 8 by omega) ?_
    refine r_is (nI s) es ?_
    refine r_iload_n (pc := 24) dX6_lacks_24 rfl ?_
    refine r_isub (pc := 25) dX6_lacks_25 ?_
    refine r_i2l (pc := 26) dX6_lacks_26 ?_
    refine iv_X6_57 (c_X6_inI _ _ _ _ _ _) (pc := 27) dX6_lacks_27 ⟨Nat.le_of_ble_eq_true rfl, Nat.le_of_ble_eq_true rfl⟩ (Nat.le_of_ble_eq_true rfl) hcs (kI ?_)
    refine r_ifeq_b (tgt := 37) (pc := 30) dX6_lacks_30 (by decide) (fun h30 => ?_) (fun h30 => ?_)
    · have g30 : ¬ itG s m i := fun z => h30 (it_mpr hs hm z)
      refine r_aload_n (pc := 37) dX6_lacks_37 rfl ?_
      refine r_iconst (v := nI 2) (pc := 38) dX6_lacks_38 (by decide) ?_
      refine iv_X6_68 (c_X6_find _ _ _ _) (pc := 39) dX6_lacks_39 rfl ⟨Nat.le_of_ble_eq_true rfl, Nat.le_of_ble_eq_true rfl⟩ (Nat.le_of_ble_eq_true rfl) hcs (kI ?_)
      exact r_iret (pc := 42) dX6_lacks_42 rfl (by subst hPP; exact (by first | exact ⟨0, Or.inr ⟨s, es, hs, Or.inl ⟨rfl, g30⟩⟩, Or.inl ⟨rfl, rfl, rfl⟩⟩ | exact ⟨2, Or.inr ⟨s, es, hs, Or.inr ⟨rfl, g30⟩⟩, Or.inr ⟨by omega, by omega, rfl, rfl⟩⟩))
    · have g30 : itG s m i := it_mp hs hm h30
      refine r_iconst (v := nI 0) (pc := 33) dX6_lacks_33 (by decide) ?_
      refine r_goto (tgt := 42) (pc := 34) dX6_lacks_34 (by decide) ?_
      exact r_iret (pc := 42) dX6_lacks_42 rfl (by subst hPP; exact (by first | exact ⟨0, Or.inr ⟨s, es, hs, Or.inl ⟨rfl, g30⟩⟩, Or.inl ⟨rfl, rfl, rfl⟩⟩ | exact ⟨2, Or.inr ⟨s, es, hs, Or.inr ⟨rfl, g30⟩⟩, Or.inr ⟨by omega, by omega, rfl, rfl⟩⟩))
  · have g6 : M 2 r < 0 := Int32.not_le.mp h6
    refine r_aload_n (pc := 9) dX6_lacks_9 rfl ?_
    refine r_iconst (v := nI 1) (pc := 10) dX6_lacks_10 (by decide) ?_
    refine iv_X6_68 (c_X6_find _ _ _ _) (pc := 11) dX6_lacks_11 rfl ⟨Nat.le_of_ble_eq_true rfl, Nat.le_of_ble_eq_true rfl⟩ (Nat.le_of_ble_eq_true rfl) hcs (kI ?_)
    exact r_iret (pc := 14) dX6_lacks_14 rfl (by subst hPP; exact ⟨1, Or.inl ⟨rfl, g6⟩, Or.inr ⟨by omega, by omega, rfl, rfl⟩⟩)
def loI (M : Mem) (n : Nat) (x i : Int32) (j : Nat) (u : Int32) (N : Mem) (e : Int32) : Prop := N 4 = M 4 ∧ ((u = nI 0 ∧ M = N ∧ 0 < n ∧ ∃ r p, r ≤ 7 ∧ x = nI r ∧ i = nI p ∧ p + n ≤ 40 ∧ LC (M 2 r) i n 0 ∧ okN (fun j => M 3 (40 * r + p + j)) n j ∧ e = seenN (fun j => M 3 (40 * r + p + j)) j) ∨ (¬ u = 0 ∧ loN M n x i u N))
set_option maxHeartbeats 4000000 in
set_option maxRecDepth 100000 in
theorem c_X6_lacksOrder (l : Launch) (G : Gx) (M : Mem) (x i : Int32) (n : Nat) (hn : M 4 2 = nI n) (hn6 : n ≤ 6) (ht : M 0 4 = 0 ↔ n = 0) (hz : ∀ r, r ≤ 7 → M 2 r < 0 ∨ ∃ s, s ≤ 40 ∧ M 2 r = nI s) : Con l G yX6_lacksOrder cX6_lacksOrder 7 (some .int) 2 48 [.ref (gA G 0), .int x, .int i] M (fun (v : Option Value) (M' : Mem) => (∃ u, loN M n x i u M' ∧ v = some (Value.int u)) ∨ (∃ r p, loZ M n x i r p ∧ v = some (Value.int (nI 0)) ∧ M' = M)) := by
  refine Con.ofV [some (.ref (gA G 0)), some (.int x), some (.int i), none, none, none, none] RX6 (by decide) rfl (Nat.le_of_ble_eq_true rfl) rfl ?_
  intro κ hl hG hk0 hn0
  subst hl hG
  have hcs : κ.k ≤ 0 ∧ κ.n ≤ 0 := ⟨Nat.le_of_eq hk0, Nat.le_of_eq hn0⟩
  generalize hPP : (fun (v : Option Value) (M' : Mem) => (∃ u, loN M n x i u M' ∧ v = some (Value.int u)) ∨ (∃ r p, loZ M n x i r p ∧ v = some (Value.int (nI 0)) ∧ M' = M)) = PP
  refine r_aload_n (pc := 0) dX6_lacksOrder_0 rfl ?_
  refine gf_X6_135 (pc := 1) dX6_lacksOrder_1 rfl ?_
  refine r_if_ne (tgt := 10) (pc := 4) dX6_lacksOrder_4 (by decide) (fun h4 => ?_) (fun h4 => ?_)
  · have hn1 : 0 < n := Nat.pos_of_ne_zero (fun z => h4 (ht.mpr z))
    have J34 : ∀ (u : Int32) (N : Mem), loI M n x i 0 u N (nI 0) → V κ cX6_lacksOrder RX6 7 (some .int) (rmx 2 48) (QM κ PP) N 34 [some (.ref (gA κ.G 0)), some (.int x), some (.int i), none, none, none, none] [.int u] := by
      intro u N hu
      refine r_st_n [_, _, _, _, _, _, _] (pc := 34) dX6_lacksOrder_34 (by decide) rfl rfl ?_
      refine r_iconst (v := nI 0) (pc := 35) dX6_lacksOrder_35 (by decide) ?_
      refine r_st [_, _, _, _, _, _, _] (pc := 36) dX6_lacksOrder_36 (by decide) rfl rfl ?_
      refine r_iconst (v := nI 0) (pc := 38) dX6_lacksOrder_38 (by decide) ?_
      refine r_st [_, _, _, _, _, _, _] (pc := 39) dX6_lacksOrder_39 (by decide) rfl rfl ?_
      refine V.bk (loopV (fun (σ : Nat × Int32 × Mem × Int32) => V κ cX6_lacksOrder RX6 7 (some .int) (rmx 2 48) (QM κ PP) (σ.2.2.1) 41 [some (.ref (gA κ.G 0)), some (.int x), some (.int i), some (.int (σ.2.1)), some (.int (σ.2.2.2)), some (.int (nI (σ.1))), none] []) (fun (σ : Nat × Int32 × Mem × Int32) => (σ.1) ≤ n ∧ loI M n x i (σ.1) (σ.2.1) (σ.2.2.1) (σ.2.2.2)) (fun (σ : Nat × Int32 × Mem × Int32) => n - (σ.1)) ?_ (0, u, N, nI 0) ⟨Nat.zero_le _, hu⟩) rfl (by (repeat (first | exact wk_0 | refine wk_n ?_ | refine wk_s rfl ?_)); done)
      rintro ⟨j, u, N, e⟩ hI0 ih
      dsimp only at hI0 ih
      obtain ⟨hj, h4N, hu⟩ := hI0
      show V κ cX6_lacksOrder RX6 7 (some .int) (rmx 2 48) (QM κ PP) N 41 [some (.ref (gA κ.G 0)), some (.int x), some (.int i), some (.int u), some (.int e), some (.int (nI j)), none] []
      refine r_iload (pc := 41) dX6_lacksOrder_41 rfl ?_
      refine r_aload_n (pc := 43) dX6_lacksOrder_43 rfl ?_
      refine gf_X6_19 (pc := 44) dX6_lacksOrder_44 rfl ?_
      refine r_iconst (v := nI 2) (pc := 47) dX6_lacksOrder_47 (by decide) ?_
      refine r_iald (pc := 48) dX6_lacksOrder_48 rfl (show _ < 41 by omega) ?_
      refine r_is (nI n) (by rw [h4N]; exact hn) ?_
      refine r_icmp_ge (tgt := 124) (pc := 49) dX6_lacksOrder_49 (by decide) (fun h49 => ?_) (fun h49 => ?_)
      · have h49 : n ≤ j := (nI_leI (by omega) (by omega)).mp h49
        refine r_iload_n (pc := 124) dX6_lacksOrder_124 rfl ?_
        exact r_iret (pc := 125) dX6_lacksOrder_125 rfl (by subst hPP; exact (by
              rcases hu with ⟨e1, e2, hn1, r, p, hr, hx, hi, hpn, hlc, hok, -⟩ | ⟨hu1, hu2⟩
              · first
                  | exact absurd e1 h53
                  | exact Or.inr ⟨r, p, ⟨hn1, hr, hx, hi, hpn, hlc, (show j = n by omega) ▸ hok⟩, by rw [e1], e2.symm⟩
              · exact Or.inl ⟨u, hu2, rfl⟩))
      · have h49 : j < n := Nat.not_le.mp (fun z => h49 ((nI_leI (by omega) (by omega)).mpr z))
        refine r_iload_n (pc := 52) dX6_lacksOrder_52 rfl ?_
        refine r_if_ne (tgt := 124) (pc := 53) dX6_lacksOrder_53 (by decide) (fun h53 => ?_) (fun h53 => ?_)
        · refine r_iload_n (pc := 124) dX6_lacksOrder_124 rfl ?_
          exact r_iret (pc := 125) dX6_lacksOrder_125 rfl (by subst hPP; exact (by
                rcases hu with ⟨e1, e2, hn1, r, p, hr, hx, hi, hpn, hlc, hok, -⟩ | ⟨hu1, hu2⟩
                · first
                    | exact absurd e1 h53
                    | exact Or.inr ⟨r, p, ⟨hn1, hr, hx, hi, hpn, hlc, (show j = n by omega) ▸ hok⟩, by rw [e1], e2.symm⟩
                · exact Or.inl ⟨u, hu2, rfl⟩))
        · obtain ⟨rfl, rfl, hn1, r, p, hr, rfl, rfl, hpn, hlc, hok, rfl⟩ := hu.resolve_right (fun z => z.1 h53)
          refine r_aload_n (pc := 56) dX6_lacksOrder_56 rfl ?_
          refine gf_X6_16 (pc := 57) dX6_lacksOrder_57 rfl ?_
          refine r_bipush (v := nI 40) (pc := 60) dX6_lacksOrder_60 (by decide) ?_
          refine r_iload_n (pc := 62) dX6_lacksOrder_62 rfl ?_
          first | with_reducible refine r_imulN (pc := 63) dX6_lacksOrder_63 ?_ | refine r_imul (pc := 63) dX6_lacksOrder_63 ?_
          refine r_iload_n (pc := 64) dX6_lacksOrder_64 rfl ?_
          first | with_reducible refine r_iaddN (pc := 65) dX6_lacksOrder_65 ?_ | refine r_iadd (pc := 65) dX6_lacksOrder_65 ?_
          refine r_iload (pc := 66) dX6_lacksOrder_66 rfl ?_
          first | with_reducible refine r_iaddN (pc := 68) dX6_lacksOrder_68 ?_ | refine r_iadd (pc := 68) dX6_lacksOrder_68 ?_
          refine r_iald (pc := 69) dX6_lacksOrder_69 rfl (show _ < 320 by omega) ?_
          refine r_st [_, _, _, _, _, _, _] (pc := 70) dX6_lacksOrder_70 (by decide) rfl rfl ?_
          refine r_aload_n (pc := 72) dX6_lacksOrder_72 rfl ?_
          refine r_iload (pc := 73) dX6_lacksOrder_73 rfl ?_
          refine iv_X6_178 (c_X6_isChair _ _ _ _) (pc := 75) dX6_lacksOrder_75 rfl ⟨Nat.le_of_ble_eq_true rfl, Nat.le_of_ble_eq_true rfl⟩ (Nat.le_of_ble_eq_true rfl) hcs (kI ?_)
          refine r_ifeq_b (tgt := 95) (pc := 78) dX6_lacksOrder_78 (by decide) (fun h78 => ?_) (fun h78 => ?_)
          · have g78 : ¬ okN (fun j => M 3 (40 * r + p + j)) n n := fun z => h78 (ch_mpr hn hn6 (z j h49).1)
            refine r_aload_n (pc := 95) dX6_lacksOrder_95 rfl ?_
            refine r_iconst (v := nI 3) (pc := 96) dX6_lacksOrder_96 (by decide) ?_
            refine iv_X6_68 (c_X6_find _ _ _ _) (pc := 97) dX6_lacksOrder_97 rfl ⟨Nat.le_of_ble_eq_true rfl, Nat.le_of_ble_eq_true rfl⟩ (Nat.le_of_ble_eq_true rfl) hcs (kI ?_)
            refine r_st_n [_, _, _, _, _, _, _] (pc := 100) dX6_lacksOrder_100 (by decide) rfl rfl ?_
            refine r_iload (pc := 101) dX6_lacksOrder_101 rfl ?_
            refine r_iload_n (pc := 103) dX6_lacksOrder_103 rfl ?_
            refine t_if_ne (tgt := 114) (J := 115) (a := ?pA104x1) (b := ?pB104x1) (pc := 104) dX6_lacksOrder_104 (by decide) (fun k104x1 => ?pT104x1) (fun k104x1 => ?pF104x1) ?pK104x1
            case pT104x1 =>
              refine r_iconst (v := nI 0) (pc := 114) dX6_lacksOrder_114 (by decide) ?_
              exact k104x1
            case pF104x1 =>
              refine r_iconst (v := nI 1) (pc := 107) dX6_lacksOrder_107 (by decide) ?_
              refine r_iload (pc := 108) dX6_lacksOrder_108 rfl ?_
              refine r_ishl (pc := 110) dX6_lacksOrder_110 ?_
              refine r_goto (tgt := 115) (pc := 111) dX6_lacksOrder_111 (by decide) ?_
              exact k104x1
            case pK104x1 =>
              refine r_ior (pc := 115) dX6_lacksOrder_115 ?_
              refine r_st [_, _, _, _, _, _, _] (pc := 116) dX6_lacksOrder_116 (by decide) rfl rfl ?_
              first | refine r_inc [_, _, _, _, _, _, _] (pc := 118) dX6_lacksOrder_118 rfl (nI_inc _) (by decide) rfl rfl ?_ | refine r_inc [_, _, _, _, _, _, _] (pc := 118) dX6_lacksOrder_118 rfl rfl (by decide) rfl rfl ?_
              refine r_goto (tgt := 41) (pc := 121) dX6_lacksOrder_121 (by decide) ?_
              first
                | exact V.bk (ih (j + 1, nI 0, M, _) ⟨by omega, rfl, Or.inl ⟨rfl, rfl, hn1, r, p, hr, rfl, rfl, hpn, hlc, g88, rfl⟩⟩ (by omega)) rfl (by (repeat (first | exact wk_0 | refine wk_n ?_ | refine wk_s rfl ?_)); done)
                | exact V.bk (ih (j + 1, fnV 3, mset M 0 3 (nI 3), _) ⟨by omega, rfl, Or.inr ⟨(show ¬ fnV 3 = 0 by decide), Or.inr (Or.inr (Or.inr ⟨hn1, r, p, hr, rfl, rfl, hpn, hlc, g78, rfl, rfl⟩))⟩⟩ (by omega)) rfl (by (repeat (first | exact wk_0 | refine wk_n ?_ | refine wk_s rfl ?_)); done)
          · refine r_iload (pc := 81) dX6_lacksOrder_81 rfl ?_
            refine r_iload (pc := 83) dX6_lacksOrder_83 rfl ?_
            refine iv_X6_162 (c_X6_has _ _ _ _ _) (pc := 85) dX6_lacksOrder_85 ⟨Nat.le_of_ble_eq_true rfl, Nat.le_of_ble_eq_true rfl⟩ (Nat.le_of_ble_eq_true rfl) hcs (kI ?_)
            refine r_ifne_b (tgt := 95) (pc := 88) dX6_lacksOrder_88 (by decide) (fun h88 => ?_) (fun h88 => ?_)
            · have g78 : ¬ okN (fun j => M 3 (40 * r + p + j)) n n := fun z => (z j h49).2 h88
              refine r_aload_n (pc := 95) dX6_lacksOrder_95 rfl ?_
              refine r_iconst (v := nI 3) (pc := 96) dX6_lacksOrder_96 (by decide) ?_
              refine iv_X6_68 (c_X6_find _ _ _ _) (pc := 97) dX6_lacksOrder_97 rfl ⟨Nat.le_of_ble_eq_true rfl, Nat.le_of_ble_eq_true rfl⟩ (Nat.le_of_ble_eq_true rfl) hcs (kI ?_)
              refine r_st_n [_, _, _, _, _, _, _] (pc := 100) dX6_lacksOrder_100 (by decide) rfl rfl ?_
              refine r_iload (pc := 101) dX6_lacksOrder_101 rfl ?_
              refine r_iload_n (pc := 103) dX6_lacksOrder_103 rfl ?_
              refine t_if_ne (tgt := 114) (J := 115) (a := ?pA104x2) (b := ?pB104x2) (pc := 104) dX6_lacksOrder_104 (by decide) (fun k104x2 => ?pT104x2) (fun k104x2 => ?pF104x2) ?pK104x2
              case pT104x2 =>
                refine r_iconst (v := nI 0) (pc := 114) dX6_lacksOrder_114 (by decide) ?_
                exact k104x2
              case pF104x2 =>
                refine r_iconst (v := nI 1) (pc := 107) dX6_lacksOrder_107 (by decide) ?_
                refine r_iload (pc := 108) dX6_lacksOrder_108 rfl ?_
                refine r_ishl (pc := 110) dX6_lacksOrder_110 ?_
                refine r_goto (tgt := 115) (pc := 111) dX6_lacksOrder_111 (by decide) ?_
                exact k104x2
              case pK104x2 =>
                refine r_ior (pc := 115) dX6_lacksOrder_115 ?_
                refine r_st [_, _, _, _, _, _, _] (pc := 116) dX6_lacksOrder_116 (by decide) rfl rfl ?_
                first | refine r_inc [_, _, _, _, _, _, _] (pc := 118) dX6_lacksOrder_118 rfl (nI_inc _) (by decide) rfl rfl ?_ | refine r_inc [_, _, _, _, _, _, _] (pc := 118) dX6_lacksOrder_118 rfl rfl (by decide) rfl rfl ?_
                refine r_goto (tgt := 41) (pc := 121) dX6_lacksOrder_121 (by decide) ?_
                first
                  | exact V.bk (ih (j + 1, nI 0, M, _) ⟨by omega, rfl, Or.inl ⟨rfl, rfl, hn1, r, p, hr, rfl, rfl, hpn, hlc, g88, rfl⟩⟩ (by omega)) rfl (by (repeat (first | exact wk_0 | refine wk_n ?_ | refine wk_s rfl ?_)); done)
                  | exact V.bk (ih (j + 1, fnV 3, mset M 0 3 (nI 3), _) ⟨by omega, rfl, Or.inr ⟨(show ¬ fnV 3 = 0 by decide), Or.inr (Or.inr (Or.inr ⟨hn1, r, p, hr, rfl, rfl, hpn, hlc, g78, rfl, rfl⟩))⟩⟩ (by omega)) rfl (by (repeat (first | exact wk_0 | refine wk_n ?_ | refine wk_s rfl ?_)); done)
            · have g88 : okN (fun j => M 3 (40 * r + p + j)) n (j + 1) := lt_s hok ⟨ch_mp hn hn6 h78, h88⟩
              refine r_iconst (v := nI 0) (pc := 91) dX6_lacksOrder_91 (by decide) ?_
              refine r_goto (tgt := 100) (pc := 92) dX6_lacksOrder_92 (by decide) ?_
              refine r_st_n [_, _, _, _, _, _, _] (pc := 100) dX6_lacksOrder_100 (by decide) rfl rfl ?_
              refine r_iload (pc := 101) dX6_lacksOrder_101 rfl ?_
              refine r_iload_n (pc := 103) dX6_lacksOrder_103 rfl ?_
              refine t_if_ne (tgt := 114) (J := 115) (a := ?pA104x3) (b := ?pB104x3) (pc := 104) dX6_lacksOrder_104 (by decide) (fun k104x3 => ?pT104x3) (fun k104x3 => ?pF104x3) ?pK104x3
              case pT104x3 =>
                refine r_iconst (v := nI 0) (pc := 114) dX6_lacksOrder_114 (by decide) ?_
                exact k104x3
              case pF104x3 =>
                refine r_iconst (v := nI 1) (pc := 107) dX6_lacksOrder_107 (by decide) ?_
                refine r_iload (pc := 108) dX6_lacksOrder_108 rfl ?_
                refine r_ishl (pc := 110) dX6_lacksOrder_110 ?_
                refine r_goto (tgt := 115) (pc := 111) dX6_lacksOrder_111 (by decide) ?_
                exact k104x3
              case pK104x3 =>
                refine r_ior (pc := 115) dX6_lacksOrder_115 ?_
                refine r_st [_, _, _, _, _, _, _] (pc := 116) dX6_lacksOrder_116 (by decide) rfl rfl ?_
                first | refine r_inc [_, _, _, _, _, _, _] (pc := 118) dX6_lacksOrder_118 rfl (nI_inc _) (by decide) rfl rfl ?_ | refine r_inc [_, _, _, _, _, _, _] (pc := 118) dX6_lacksOrder_118 rfl rfl (by decide) rfl rfl ?_
                refine r_goto (tgt := 41) (pc := 121) dX6_lacksOrder_121 (by decide) ?_
                first
                  | exact V.bk (ih (j + 1, nI 0, M, _) ⟨by omega, rfl, Or.inl ⟨rfl, rfl, hn1, r, p, hr, rfl, rfl, hpn, hlc, g88, rfl⟩⟩ (by omega)) rfl (by (repeat (first | exact wk_0 | refine wk_n ?_ | refine wk_s rfl ?_)); done)
                  | exact V.bk (ih (j + 1, fnV 3, mset M 0 3 (nI 3), _) ⟨by omega, rfl, Or.inr ⟨(show ¬ fnV 3 = 0 by decide), Or.inr (Or.inr (Or.inr ⟨hn1, r, p, hr, rfl, rfl, hpn, hlc, g78, rfl, rfl⟩))⟩⟩ (by omega)) rfl (by (repeat (first | exact wk_0 | refine wk_n ?_ | refine wk_s rfl ?_)); done)
    refine r_iload_n (pc := 10) dX6_lacksOrder_10 rfl ?_
    refine iv_X6_61 (c_X6_isRow _ _ _ _) (pc := 11) dX6_lacksOrder_11 ⟨Nat.le_of_ble_eq_true rfl, Nat.le_of_ble_eq_true rfl⟩ (Nat.le_of_ble_eq_true rfl) hcs (kI ?_)
    refine r_ifeq_b (tgt := 32) (pc := 14) dX6_lacksOrder_14 (by decide) (fun h14 => ?_) (fun h14 => ?_)
    · have g14 : ¬ rgG 0 7 x := fun z => h14 (rg_mpr z (by omega))
      refine r_ldc (pc := 32) dX6_lacksOrder_32 lk_X6_67 ?_
      exact J34 _ _ ⟨rfl, Or.inr ⟨by decide, Or.inr (Or.inl ⟨hn1, g14, rfl, rfl⟩)⟩⟩
    · obtain ⟨r, hra, hrb, rfl⟩ := rg_mp (a := 0) (b := 7) h14 (by omega) (by omega)
      refine r_aload_n (pc := 17) dX6_lacksOrder_17 rfl ?_
      refine r_iload_n (pc := 18) dX6_lacksOrder_18 rfl ?_
      refine r_iload_n (pc := 19) dX6_lacksOrder_19 rfl ?_
      refine r_aload_n (pc := 20) dX6_lacksOrder_20 rfl ?_
      refine gf_X6_19 (pc := 21) dX6_lacksOrder_21 rfl ?_
      refine r_iconst (v := nI 2) (pc := 24) dX6_lacksOrder_24 (by decide) ?_
      refine r_iald (pc := 25) dX6_lacksOrder_25 rfl (show _ < 41 by omega) ?_
      refine r_is (nI n) hn ?_
      refine iv_X6_220 (c_X6_lacks _ _ _ _ _ _ (by omega) (by omega) hz) (pc := 26) dX6_lacksOrder_26 rfl ⟨Nat.le_of_ble_eq_true rfl, Nat.le_of_ble_eq_true rfl⟩ (Nat.le_of_ble_eq_true rfl) hcs (fun v1 N1 h1 => ?_)
      refine r_goto (tgt := 34) (pc := 29) dX6_lacksOrder_29 (by decide) ?_
      obtain ⟨c, hc, h1⟩ := h1
      rcases h1 with ⟨rfl, rfl, rfl⟩ | ⟨hc0, hc2, rfl, rfl⟩
      · obtain ⟨s, p, e1, e2, rfl, e4⟩ := LC_0 hc
        exact J34 _ _ ⟨rfl, Or.inl ⟨rfl, rfl, hn1, r, p, hrb, rfl, rfl, by omega, hc, fun i h => absurd h (Nat.not_lt_zero i), rfl⟩⟩
      · exact J34 _ _ ⟨rfl, Or.inr ⟨fun z => absurd (fnV_neg (c := c) (by omega)) (by rw [z]; decide), Or.inr (Or.inr (Or.inl ⟨hn1, r, c, hrb, rfl, hc, hc0, hc2, rfl, rfl⟩))⟩⟩
  · have g4 : n = 0 := ht.mp h4
    refine r_ldc (pc := 7) dX6_lacksOrder_7 lk_X6_169 ?_
    exact r_iret (pc := 9) dX6_lacksOrder_9 rfl (by subst hPP; exact (Or.inl ⟨cState, Or.inl ⟨g4, rfl, rfl⟩, rfl⟩))
