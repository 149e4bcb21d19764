theorem updE_eq (F : Nat → va_E) (i : Nat) (e : va_E) : updE F i e i = e := if_pos rfl
theorem updE_ne (F : Nat → va_E) {i j : Nat} (e : va_E) (h : j ≠ i) : updE F i e j = F j := if_neg h
theorem mnE_out (G : Gx) (h : Nat) (F : Nat → va_E) (m N K : Nat) {j : Nat} (hj : j < m ∨ m + N < j) : mnE G h F m N K j = F j := by
  unfold mnE
  rw [if_neg (by omega), if_neg (by omega)]
/-- what ChairRanks$Asks() leaves -/
abbrev mkX0 (G : Gx) (h : Nat) (F : Nat → va_E) (n o : Nat) : Nat → va_E := (updE (updE F (n + 0) (.inl (G.2.1, 16, .inl (fun _ => 0)))) o (.inr (0, [.ref (h + (n + 0)), .int 0])))
set_option maxHeartbeats 8000000 in
set_option maxRecDepth 100000 in
theorem c_X0_init (l : Launch) (G : Gx) (h o n : Nat) (F : Nat → va_E) (hB : Bx G h) (ho : o < n) (hn : n + 1 ≤ 87) (hF : F o = .inr (0, [.null, .int 0])) : ConI l G yX0_init cX0_init 1 1 60 1 16 h o n F (mkX0 G h F n o) := by
  refine ConI.ofU RX0 (by decide) rfl rfl (Nat.le_of_ble_eq_true rfl) hB ?_
  intro κ hl hG hi
  subst hl hG
  show U κ cX0_init RX0 1 none (rmI 1 60 1 16) (QI κ h n 1 16 (mkX0 κ.G h F n o)) h n 0 0 F 0 [some (.ref (h + o))] []
  refine u_aload_n (pc := 0) dX0_init_0 rfl ?_
  refine u_obj (pc := 1) dX0_init_1 (in_g (List.mem_of_getElem? (i := 209) (by decide +kernel)) (by decide +kernel)) (in_g (List.mem_of_getElem? (i := 93) (by decide +kernel)) (by decide +kernel)) (in_g (List.mem_of_getElem? (i := 94) (by decide +kernel)) (by decide +kernel)) (Nat.le_of_ble_eq_true rfl) (Nat.le_of_ble_eq_true rfl) ?_
  refine u_aload_n (pc := 4) dX0_init_4 rfl ?_
  refine u_bipush (v := nI 16) (pc := 5) dX0_init_5 (by decide) ?_
  refine u_newi (N := 16) (pc := 7) dX0_init_7 (by decide) (Nat.le_of_ble_eq_true rfl) (Nat.le_of_ble_eq_true rfl) ?_
  refine u_putF (C := RX0) (T := TX0) (N := 2) (ci := 0) (o := o) (j := 0) (fs := [.null, .int 0]) (ty := .array .int) inG0 tyX0 tyX0_ok nmX0 rfl (by decide) (in_g (List.mem_of_getElem? (i := 210) (by decide +kernel)) (by decide +kernel)) rfl hi rfl (by decide +kernel) rfl rfl (Nat.le_of_ble_eq_true rfl) (by omega) (by omega) (by repeat (first | exact hF | exact updE_eq _ _ _ | refine (updE_ne _ _ (by omega)).trans ?_ | refine (mnE_out _ _ _ _ _ _ (by omega)).trans ?_)) (pc := 9) dX0_init_9 ?_
  exact u_vret (mc := 0) (ms := 0) (pc := 12) dX0_init_12 rfl
/-- what ChairRanks$History() leaves -/
abbrev mkX1 (G : Gx) (h : Nat) (F : Nat → va_E) (n o : Nat) : Nat → va_E := (updE (mnE G h F (n + 0) 24 41) o (.inr (1, [.ref (h + (n + 0)), .int 0, .int 0])))
set_option maxHeartbeats 8000000 in
set_option maxRecDepth 100000 in
theorem c_X1_init (l : Launch) (G : Gx) (h o n : Nat) (F : Nat → va_E) (hB : Bx G h) (ho : o < n) (hn : n + 25 ≤ 87) (hF : F o = .inr (1, [.null, .int 0, .int 0])) : ConI l G yX1_init cX1_init 1 1 60 25 1008 h o n F (mkX1 G h F n o) := by
  refine ConI.ofU RX1 (by decide) rfl rfl (Nat.le_of_ble_eq_true rfl) hB ?_
  intro κ hl hG hi
  subst hl hG
  show U κ cX1_init RX1 1 none (rmI 1 60 25 1008) (QI κ h n 25 1008 (mkX1 κ.G h F n o)) h n 0 0 F 0 [some (.ref (h + o))] []
  refine u_aload_n (pc := 0) dX1_init_0 rfl ?_
  refine u_obj (pc := 1) dX1_init_1 (in_g (List.mem_of_getElem? (i := 189) (by decide +kernel)) (by decide +kernel)) (in_g (List.mem_of_getElem? (i := 93) (by decide +kernel)) (by decide +kernel)) (in_g (List.mem_of_getElem? (i := 94) (by decide +kernel)) (by decide +kernel)) (Nat.le_of_ble_eq_true rfl) (Nat.le_of_ble_eq_true rfl) ?_
  refine u_aload_n (pc := 4) dX1_init_4 rfl ?_
  refine u_bipush (v := nI 24) (pc := 5) dX1_init_5 (by decide) ?_
  refine u_bipush (v := nI 41) (pc := 7) dX1_init_7 (by decide) ?_
  refine u_mna (N := 24) (K := 41) (pc := 9) dX1_init_9 (in_g (List.mem_of_getElem? (i := 190) (by decide +kernel)) (by decide +kernel)) (by decide) (by decide) (Nat.le_of_ble_eq_true rfl) (Nat.le_of_ble_eq_true rfl) ?_
  refine u_putF (C := RX1) (T := TX1) (N := 3) (ci := 1) (o := o) (j := 0) (fs := [.null, .int 0, .int 0]) (ty := .array (.array .int)) inG1 tyX1 tyX1_ok nmX1 rfl (by decide) (in_g (List.mem_of_getElem? (i := 192) (by decide +kernel)) (by decide +kernel)) rfl hi rfl (by decide +kernel) rfl rfl (Nat.le_of_ble_eq_true rfl) (by omega) (by omega) (by repeat (first | exact hF | exact updE_eq _ _ _ | refine (updE_ne _ _ (by omega)).trans ?_ | refine (mnE_out _ _ _ _ _ _ (by omega)).trans ?_)) (pc := 13) dX1_init_13 ?_
  exact u_vret (mc := 0) (ms := 0) (pc := 16) dX1_init_16 rfl
/-- what ChairRanks$Ministry() leaves -/
abbrev mkX2 (G : Gx) (h : Nat) (F : Nat → va_E) (n o : Nat) : Nat → va_E := (updE (updE (updE (updE (updE (updE (updE (updE (updE (updE (updE (updE (updE (updE (updE (updE (updE (updE F (n + 0) (.inl (G.2.1, 6, .inl (fun _ => 0)))) o (.inr (2, [.int 0, .int 0, .int 0, .int 0, .int 0, .ref (h + (n + 0)), .null, .null, .null, .null, .null, .null, .null, .null]))) (n + 1) (.inl (G.2.1, 6, .inl (fun _ => 0)))) o (.inr (2, [.int 0, .int 0, .int 0, .int 0, .int 0, .ref (h + (n + 0)), .ref (h + (n + 1)), .null, .null, .null, .null, .null, .null, .null]))) (n + 2) (.inl (G.2.1, 6, .inl (fun _ => 0)))) o (.inr (2, [.int 0, .int 0, .int 0, .int 0, .int 0, .ref (h + (n + 0)), .ref (h + (n + 1)), .ref (h + (n + 2)), .null, .null, .null, .null, .null, .null]))) (n + 3) (.inl (G.2.1, 6, .inl (fun _ => 0)))) o (.inr (2, [.int 0, .int 0, .int 0, .int 0, .int 0, .ref (h + (n + 0)), .ref (h + (n + 1)), .ref (h + (n + 2)), .ref (h + (n + 3)), .null, .null, .null, .null, .null]))) (n + 4) (.inl (G.2.1, 6, .inl (fun _ => 0)))) o (.inr (2, [.int 0, .int 0, .int 0, .int 0, .int 0, .ref (h + (n + 0)), .ref (h + (n + 1)), .ref (h + (n + 2)), .ref (h + (n + 3)), .ref (h + (n + 4)), .null, .null, .null, .null]))) (n + 5) (.inl (G.2.1, 6, .inl (fun _ => 0)))) o (.inr (2, [.int 0, .int 0, .int 0, .int 0, .int 0, .ref (h + (n + 0)), .ref (h + (n + 1)), .ref (h + (n + 2)), .ref (h + (n + 3)), .ref (h + (n + 4)), .ref (h + (n + 5)), .null, .null, .null]))) (n + 6) (.inl (G.2.1, 6, .inl (fun _ => 0)))) o (.inr (2, [.int 0, .int 0, .int 0, .int 0, .int 0, .ref (h + (n + 0)), .ref (h + (n + 1)), .ref (h + (n + 2)), .ref (h + (n + 3)), .ref (h + (n + 4)), .ref (h + (n + 5)), .ref (h + (n + 6)), .null, .null]))) (n + 7) (.inl (G.2.1, 6, .inl (fun _ => 0)))) o (.inr (2, [.int 0, .int 0, .int 0, .int 0, .int 0, .ref (h + (n + 0)), .ref (h + (n + 1)), .ref (h + (n + 2)), .ref (h + (n + 3)), .ref (h + (n + 4)), .ref (h + (n + 5)), .ref (h + (n + 6)), .ref (h + (n + 7)), .null]))) (n + 8) (.inl (G.2.1, 6, .inl (fun _ => 0)))) o (.inr (2, [.int 0, .int 0, .int 0, .int 0, .int 0, .ref (h + (n + 0)), .ref (h + (n + 1)), .ref (h + (n + 2)), .ref (h + (n + 3)), .ref (h + (n + 4)), .ref (h + (n + 5)), .ref (h + (n + 6)), .ref (h + (n + 7)), .ref (h + (n + 8))])))
set_option maxHeartbeats 8000000 in
set_option maxRecDepth 100000 in
theorem c_X2_init (l : Launch) (G : Gx) (h o n : Nat) (F : Nat → va_E) (hB : Bx G h) (ho : o < n) (hn : n + 9 ≤ 87) (hF : F o = .inr (2, [.int 0, .int 0, .int 0, .int 0, .int 0, .null, .null, .null, .null, .null, .null, .null, .null, .null])) : ConI l G yX2_init cX2_init 1 1 60 9 54 h o n F (mkX2 G h F n o) := by
  refine ConI.ofU RX2 (by decide) rfl rfl (Nat.le_of_ble_eq_true rfl) hB ?_
  intro κ hl hG hi
  subst hl hG
  show U κ cX2_init RX2 1 none (rmI 1 60 9 54) (QI κ h n 9 54 (mkX2 κ.G h F n o)) h n 0 0 F 0 [some (.ref (h + o))] []
  refine u_aload_n (pc := 0) dX2_init_0 rfl ?_
  refine u_obj (pc := 1) dX2_init_1 (in_g (List.mem_of_getElem? (i := 124) (by decide +kernel)) (by decide +kernel)) (in_g (List.mem_of_getElem? (i := 93) (by decide +kernel)) (by decide +kernel)) (in_g (List.mem_of_getElem? (i := 94) (by decide +kernel)) (by decide +kernel)) (Nat.le_of_ble_eq_true rfl) (Nat.le_of_ble_eq_true rfl) ?_
  refine u_aload_n (pc := 4) dX2_init_4 rfl ?_
  refine u_bipush (v := nI 6) (pc := 5) dX2_init_5 (by decide) ?_
  refine u_newi (N := 6) (pc := 7) dX2_init_7 (by decide) (Nat.le_of_ble_eq_true rfl) (Nat.le_of_ble_eq_true rfl) ?_
  refine u_putF (C := RX2) (T := TX2) (N := 14) (ci := 2) (o := o) (j := 5) (fs := [.int 0, .int 0, .int 0, .int 0, .int 0, .null, .null, .null, .null, .null, .null, .null, .null, .null]) (ty := .array .int) inG2 tyX2 tyX2_ok nmX2 rfl (by decide) (in_g (List.mem_of_getElem? (i := 137) (by decide +kernel)) (by decide +kernel)) rfl hi rfl (by decide +kernel) rfl rfl (Nat.le_of_ble_eq_true rfl) (by omega) (by omega) (by repeat (first | exact hF | exact updE_eq _ _ _ | refine (updE_ne _ _ (by omega)).trans ?_ | refine (mnE_out _ _ _ _ _ _ (by omega)).trans ?_)) (pc := 9) dX2_init_9 ?_
  refine u_aload_n (pc := 12) dX2_init_12 rfl ?_
  refine u_bipush (v := nI 6) (pc := 13) dX2_init_13 (by decide) ?_
  refine u_newi (N := 6) (pc := 15) dX2_init_15 (by decide) (Nat.le_of_ble_eq_true rfl) (Nat.le_of_ble_eq_true rfl) ?_
  refine u_putF (C := RX2) (T := TX2) (N := 14) (ci := 2) (o := o) (j := 6) (fs := [.int 0, .int 0, .int 0, .int 0, .int 0, .ref (h + (n + 0)), .null, .null, .null, .null, .null, .null, .null, .null]) (ty := .array .int) inG2 tyX2 tyX2_ok nmX2 rfl (by decide) (in_g (List.mem_of_getElem? (i := 140) (by decide +kernel)) (by decide +kernel)) rfl hi rfl (by decide +kernel) rfl rfl (Nat.le_of_ble_eq_true rfl) (by omega) (by omega) (by repeat (first | exact hF | exact updE_eq _ _ _ | refine (updE_ne _ _ (by omega)).trans ?_ | refine (mnE_out _ _ _ _ _ _ (by omega)).trans ?_)) (pc := 17) dX2_init_17 ?_
  refine u_aload_n (pc := 20) dX2_init_20 rfl ?_
  refine u_bipush (v := nI 6) (pc := 21) dX2_init_21 (by decide) ?_
  refine u_newi (N := 6) (pc := 23) dX2_init_23 (by decide) (Nat.le_of_ble_eq_true rfl) (Nat.le_of_ble_eq_true rfl) ?_
  refine u_putF (C := RX2) (T := TX2) (N := 14) (ci := 2) (o := o) (j := 7) (fs := [.int 0, .int 0, .int 0, .int 0, .int 0, .ref (h + (n + 0)), .ref (h + (n + 1)), .null, .null, .null, .null, .null, .null, .null]) (ty := .array .int) inG2 tyX2 tyX2_ok nmX2 rfl (by decide) (in_g (List.mem_of_getElem? (i := 143) (by decide +kernel)) (by decide +kernel)) rfl hi rfl (by decide +kernel) rfl rfl (Nat.le_of_ble_eq_true rfl) (by omega) (by omega) (by repeat (first | exact hF | exact updE_eq _ _ _ | refine (updE_ne _ _ (by omega)).trans ?_ | refine (mnE_out _ _ _ _ _ _ (by omega)).trans ?_)) (pc := 25) dX2_init_25 ?_
  refine u_aload_n (pc := 28) dX2_init_28 rfl ?_
  refine u_bipush (v := nI 6) (pc := 29) dX2_init_29 (by decide) ?_
  refine u_newi (N := 6) (pc := 31) dX2_init_31 (by decide) (Nat.le_of_ble_eq_true rfl) (Nat.le_of_ble_eq_true rfl) ?_
  refine u_putF (C := RX2) (T := TX2) (N := 14) (ci := 2) (o := o) (j := 8) (fs := [.int 0, .int 0, .int 0, .int 0, .int 0, .ref (h + (n + 0)), .ref (h + (n + 1)), .ref (h + (n + 2)), .null, .null, .null, .null, .null, .null]) (ty := .array .int) inG2 tyX2 tyX2_ok nmX2 rfl (by decide) (in_g (List.mem_of_getElem? (i := 146) (by decide +kernel)) (by decide +kernel)) rfl hi rfl (by decide +kernel) rfl rfl (Nat.le_of_ble_eq_true rfl) (by omega) (by omega) (by repeat (first | exact hF | exact updE_eq _ _ _ | refine (updE_ne _ _ (by omega)).trans ?_ | refine (mnE_out _ _ _ _ _ _ (by omega)).trans ?_)) (pc := 33) dX2_init_33 ?_
  refine u_aload_n (pc := 36) dX2_init_36 rfl ?_
  refine u_bipush (v := nI 6) (pc := 37) dX2_init_37 (by decide) ?_
  refine u_newi (N := 6) (pc := 39) dX2_init_39 (by decide) (Nat.le_of_ble_eq_true rfl) (Nat.le_of_ble_eq_true rfl) ?_
  refine u_putF (C := RX2) (T := TX2) (N := 14) (ci := 2) (o := o) (j := 9) (fs := [.int 0, .int 0, .int 0, .int 0, .int 0, .ref (h + (n + 0)), .ref (h + (n + 1)), .ref (h + (n + 2)), .ref (h + (n + 3)), .null, .null, .null, .null, .null]) (ty := .array .int) inG2 tyX2 tyX2_ok nmX2 rfl (by decide) (in_g (List.mem_of_getElem? (i := 148) (by decide +kernel)) (by decide +kernel)) rfl hi rfl (by decide +kernel) rfl rfl (Nat.le_of_ble_eq_true rfl) (by omega) (by omega) (by repeat (first | exact hF | exact updE_eq _ _ _ | refine (updE_ne _ _ (by omega)).trans ?_ | refine (mnE_out _ _ _ _ _ _ (by omega)).trans ?_)) (pc := 41) dX2_init_41 ?_
  refine u_aload_n (pc := 44) dX2_init_44 rfl ?_
  refine u_bipush (v := nI 6) (pc := 45) dX2_init_45 (by decide) ?_
  refine u_newi (N := 6) (pc := 47) dX2_init_47 (by decide) (Nat.le_of_ble_eq_true rfl) (Nat.le_of_ble_eq_true rfl) ?_
  refine u_putF (C := RX2) (T := TX2) (N := 14) (ci := 2) (o := o) (j := 10) (fs := [.int 0, .int 0, .int 0, .int 0, .int 0, .ref (h + (n + 0)), .ref (h + (n + 1)), .ref (h + (n + 2)), .ref (h + (n + 3)), .ref (h + (n + 4)), .null, .null, .null, .null]) (ty := .array .int) inG2 tyX2 tyX2_ok nmX2 rfl (by decide) (in_g (List.mem_of_getElem? (i := 150) (by decide +kernel)) (by decide +kernel)) rfl hi rfl (by decide +kernel) rfl rfl (Nat.le_of_ble_eq_true rfl) (by omega) (by omega) (by repeat (first | exact hF | exact updE_eq _ _ _ | refine (updE_ne _ _ (by omega)).trans ?_ | refine (mnE_out _ _ _ _ _ _ (by omega)).trans ?_)) (pc := 49) dX2_init_49 ?_
  refine u_aload_n (pc := 52) dX2_init_52 rfl ?_
  refine u_bipush (v := nI 6) (pc := 53) dX2_init_53 (by decide) ?_
  refine u_newi (N := 6) (pc := 55) dX2_init_55 (by decide) (Nat.le_of_ble_eq_true rfl) (Nat.le_of_ble_eq_true rfl) ?_
  refine u_putF (C := RX2) (T := TX2) (N := 14) (ci := 2) (o := o) (j := 11) (fs := [.int 0, .int 0, .int 0, .int 0, .int 0, .ref (h + (n + 0)), .ref (h + (n + 1)), .ref (h + (n + 2)), .ref (h + (n + 3)), .ref (h + (n + 4)), .ref (h + (n + 5)), .null, .null, .null]) (ty := .array .int) inG2 tyX2 tyX2_ok nmX2 rfl (by decide) (in_g (List.mem_of_getElem? (i := 152) (by decide +kernel)) (by decide +kernel)) rfl hi rfl (by decide +kernel) rfl rfl (Nat.le_of_ble_eq_true rfl) (by omega) (by omega) (by repeat (first | exact hF | exact updE_eq _ _ _ | refine (updE_ne _ _ (by omega)).trans ?_ | refine (mnE_out _ _ _ _ _ _ (by omega)).trans ?_)) (pc := 57) dX2_init_57 ?_
  refine u_aload_n (pc := 60) dX2_init_60 rfl ?_
  refine u_bipush (v := nI 6) (pc := 61) dX2_init_61 (by decide) ?_
  refine u_newi (N := 6) (pc := 63) dX2_init_63 (by decide) (Nat.le_of_ble_eq_true rfl) (Nat.le_of_ble_eq_true rfl) ?_
  refine u_putF (C := RX2) (T := TX2) (N := 14) (ci := 2) (o := o) (j := 12) (fs := [.int 0, .int 0, .int 0, .int 0, .int 0, .ref (h + (n + 0)), .ref (h + (n + 1)), .ref (h + (n + 2)), .ref (h + (n + 3)), .ref (h + (n + 4)), .ref (h + (n + 5)), .ref (h + (n + 6)), .null, .null]) (ty := .array .int) inG2 tyX2 tyX2_ok nmX2 rfl (by decide) (in_g (List.mem_of_getElem? (i := 153) (by decide +kernel)) (by decide +kernel)) rfl hi rfl (by decide +kernel) rfl rfl (Nat.le_of_ble_eq_true rfl) (by omega) (by omega) (by repeat (first | exact hF | exact updE_eq _ _ _ | refine (updE_ne _ _ (by omega)).trans ?_ | refine (mnE_out _ _ _ _ _ _ (by omega)).trans ?_)) (pc := 65) dX2_init_65 ?_
  refine u_aload_n (pc := 68) dX2_init_68 rfl ?_
  refine u_bipush (v := nI 6) (pc := 69) dX2_init_69 (by decide) ?_
  refine u_newi (N := 6) (pc := 71) dX2_init_71 (by decide) (Nat.le_of_ble_eq_true rfl) (Nat.le_of_ble_eq_true rfl) ?_
  refine u_putF (C := RX2) (T := TX2) (N := 14) (ci := 2) (o := o) (j := 13) (fs := [.int 0, .int 0, .int 0, .int 0, .int 0, .ref (h + (n + 0)), .ref (h + (n + 1)), .ref (h + (n + 2)), .ref (h + (n + 3)), .ref (h + (n + 4)), .ref (h + (n + 5)), .ref (h + (n + 6)), .ref (h + (n + 7)), .null]) (ty := .array .int) inG2 tyX2 tyX2_ok nmX2 rfl (by decide) (in_g (List.mem_of_getElem? (i := 154) (by decide +kernel)) (by decide +kernel)) rfl hi rfl (by decide +kernel) rfl rfl (Nat.le_of_ble_eq_true rfl) (by omega) (by omega) (by repeat (first | exact hF | exact updE_eq _ _ _ | refine (updE_ne _ _ (by omega)).trans ?_ | refine (mnE_out _ _ _ _ _ _ (by omega)).trans ?_)) (pc := 73) dX2_init_73 ?_
  exact u_vret (mc := 0) (ms := 0) (pc := 76) dX2_init_76 rfl
/-- what ChairRanks$Row() leaves -/
abbrev mkX3 (G : Gx) (h : Nat) (F : Nat → va_E) (n o : Nat) : Nat → va_E := (updE (updE (updE F (n + 0) (.inl (G.2.1, 40, .inl (fun _ => 0)))) o (.inr (3, [.ref (h + (n + 0)), .int 0, .int 0]))) o (.inr (3, [.ref (h + (n + 0)), .int (-1), .int 0])))
set_option maxHeartbeats 8000000 in
set_option maxRecDepth 100000 in
theorem c_X3_init (l : Launch) (G : Gx) (h o n : Nat) (F : Nat → va_E) (hB : Bx G h) (ho : o < n) (hn : n + 1 ≤ 87) (hF : F o = .inr (3, [.null, .int 0, .int 0])) : ConI l G yX3_init cX3_init 1 1 60 1 40 h o n F (mkX3 G h F n o) := by
  refine ConI.ofU RX3 (by decide) rfl rfl (Nat.le_of_ble_eq_true rfl) hB ?_
  intro κ hl hG hi
  subst hl hG
  show U κ cX3_init RX3 1 none (rmI 1 60 1 40) (QI κ h n 1 40 (mkX3 κ.G h F n o)) h n 0 0 F 0 [some (.ref (h + o))] []
  refine u_aload_n (pc := 0) dX3_init_0 rfl ?_
  refine u_obj (pc := 1) dX3_init_1 (in_g (List.mem_of_getElem? (i := 223) (by decide +kernel)) (by decide +kernel)) (in_g (List.mem_of_getElem? (i := 93) (by decide +kernel)) (by decide +kernel)) (in_g (List.mem_of_getElem? (i := 94) (by decide +kernel)) (by decide +kernel)) (Nat.le_of_ble_eq_true rfl) (Nat.le_of_ble_eq_true rfl) ?_
  refine u_aload_n (pc := 4) dX3_init_4 rfl ?_
  refine u_bipush (v := nI 40) (pc := 5) dX3_init_5 (by decide) ?_
  refine u_newi (N := 40) (pc := 7) dX3_init_7 (by decide) (Nat.le_of_ble_eq_true rfl) (Nat.le_of_ble_eq_true rfl) ?_
  refine u_putF (C := RX3) (T := TX3) (N := 3) (ci := 3) (o := o) (j := 0) (fs := [.null, .int 0, .int 0]) (ty := .array .int) inG3 tyX3 tyX3_ok nmX3 rfl (by decide) (in_g (List.mem_of_getElem? (i := 224) (by decide +kernel)) (by decide +kernel)) rfl hi rfl (by decide +kernel) rfl rfl (Nat.le_of_ble_eq_true rfl) (by omega) (by omega) (by repeat (first | exact hF | exact updE_eq _ _ _ | refine (updE_ne _ _ (by omega)).trans ?_ | refine (mnE_out _ _ _ _ _ _ (by omega)).trans ?_)) (pc := 9) dX3_init_9 ?_
  refine u_aload_n (pc := 12) dX3_init_12 rfl ?_
  refine u_iconst (v := -1) (pc := 13) dX3_init_13 (by decide) ?_
  refine u_put (C := RX3) (T := TX3) (N := 3) (ci := 3) (o := o) (j := 1) (fs := [.ref (h + (n + 0)), .int 0, .int 0]) (ty := .int) inG3 tyX3 tyX3_ok nmX3 rfl (by decide) (in_g (List.mem_of_getElem? (i := 226) (by decide +kernel)) (by decide +kernel)) rfl (by decide +kernel) rfl rfl (Nat.le_of_ble_eq_true rfl) (by omega) (by omega) (by repeat (first | exact hF | exact updE_eq _ _ _ | refine (updE_ne _ _ (by omega)).trans ?_ | refine (mnE_out _ _ _ _ _ _ (by omega)).trans ?_)) (pc := 14) dX3_init_14 ?_
  exact u_vret (mc := 0) (ms := 0) (pc := 17) dX3_init_17 rfl
/-- what ChairRanks$Tape() leaves -/
abbrev mkX4 (G : Gx) (h : Nat) (F : Nat → va_E) (n o : Nat) : Nat → va_E := (updE (updE F (n + 0) (.inl (G.2.1, 120, .inl (fun _ => 0)))) o (.inr (4, [.ref (h + (n + 0)), .int 0, .int 0, .int 0])))
set_option maxHeartbeats 8000000 in
set_option maxRecDepth 100000 in
theorem c_X4_init (l : Launch) (G : Gx) (h o n : Nat) (F : Nat → va_E) (hB : Bx G h) (ho : o < n) (hn : n + 1 ≤ 87) (hF : F o = .inr (4, [.null, .int 0, .int 0, .int 0])) : ConI l G yX4_init cX4_init 1 1 60 1 120 h o n F (mkX4 G h F n o) := by
  refine ConI.ofU RX4 (by decide) rfl rfl (Nat.le_of_ble_eq_true rfl) hB ?_
  intro κ hl hG hi
  subst hl hG
  show U κ cX4_init RX4 1 none (rmI 1 60 1 120) (QI κ h n 1 120 (mkX4 κ.G h F n o)) h n 0 0 F 0 [some (.ref (h + o))] []
  refine u_aload_n (pc := 0) dX4_init_0 rfl ?_
  refine u_obj (pc := 1) dX4_init_1 (in_g (List.mem_of_getElem? (i := 102) (by decide +kernel)) (by decide +kernel)) (in_g (List.mem_of_getElem? (i := 93) (by decide +kernel)) (by decide +kernel)) (in_g (List.mem_of_getElem? (i := 94) (by decide +kernel)) (by decide +kernel)) (Nat.le_of_ble_eq_true rfl) (Nat.le_of_ble_eq_true rfl) ?_
  refine u_aload_n (pc := 4) dX4_init_4 rfl ?_
  refine u_bipush (v := nI 120) (pc := 5) dX4_init_5 (by decide) ?_
  refine u_newi (N := 120) (pc := 7) dX4_init_7 (by decide) (Nat.le_of_ble_eq_true rfl) (Nat.le_of_ble_eq_true rfl) ?_
  refine u_putF (C := RX4) (T := TX4) (N := 4) (ci := 4) (o := o) (j := 0) (fs := [.null, .int 0, .int 0, .int 0]) (ty := .array .int) inG4 tyX4 tyX4_ok nmX4 rfl (by decide) (in_g (List.mem_of_getElem? (i := 103) (by decide +kernel)) (by decide +kernel)) rfl hi rfl (by decide +kernel) rfl rfl (Nat.le_of_ble_eq_true rfl) (by omega) (by omega) (by repeat (first | exact hF | exact updE_eq _ _ _ | refine (updE_ne _ _ (by omega)).trans ?_ | refine (mnE_out _ _ _ _ _ _ (by omega)).trans ?_)) (pc := 9) dX4_init_9 ?_
  exact u_vret (mc := 0) (ms := 0) (pc := 12) dX4_init_12 rfl
