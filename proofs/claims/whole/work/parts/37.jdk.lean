theorem lk_J6_265 : Cond.constant RJ6 265 (1431655765) ∈ gtbl := in_g (List.mem_of_getElem? (i := 561) (by decide +kernel)) (by decide +kernel)
theorem lk_J6_266 : Cond.constant RJ6 266 (858993459) ∈ gtbl := in_g (List.mem_of_getElem? (i := 562) (by decide +kernel)) (by decide +kernel)
theorem lk_J6_267 : Cond.constant RJ6 267 (252645135) ∈ gtbl := in_g (List.mem_of_getElem? (i := 563) (by decide +kernel)) (by decide +kernel)
section KIT3
variable {κ : Kx} {cc : ByteArray} {nL : Nat} {ret : Option FieldType} {R : Room} {Q : State → Prop} {M : Mem} {pc : Nat} {f : List (Option Value)} {st : List Value}
theorem r_ldS (hd : decode cc pc = .ok (.ldc 51, 2)) (k : V κ cc RX4 nL ret R Q M (pc + 2) f (.ref (gA κ.G 87) :: st)) : V κ cc RX4 nL ret R Q M pc f st := fun cx H locs ls hP hS hl =>
  va_ldcS cx.1 cx.2.1 cx.2.2.2.1 cx.2.2.2.2.2.2.1.2.2.1 hd (k cx H locs ls hP hS hl)
theorem r_sval (hd : decode cc pc = .ok (.getfield 9, 3)) (k : V κ cc RJ0 nL ret R Q M (pc + 3) f (.ref (gA κ.G 88) :: st)) : V κ cc RJ0 nL ret R Q M pc f (.ref (gA κ.G 87) :: st) := fun cx H locs ls hP hS hl =>
  vk_getf cx.1 cx.2.1 (cx.2.2.2.2.2.2.1.2.2.2.1.1 0 (by decide)).2.2.1 hS cx.2.2.2.1 (cx.2.2.2.2.1 _ (in_g (List.mem_of_getElem? (i := 1283) (by decide +kernel)) (by decide +kernel))) (fun _ h => h) hd (k cx H locs ls hP hS hl)
theorem r_scod (hd : decode cc pc = .ok (.getfield 15, 3)) (k : V κ cc RJ0 nL ret R Q M (pc + 3) f (.int 0 :: st)) : V κ cc RJ0 nL ret R Q M pc f (.ref (gA κ.G 87) :: st) := fun cx H locs ls hP hS hl =>
  vk_getf cx.1 cx.2.1 (cx.2.2.2.2.2.2.1.2.2.2.1.1 0 (by decide)).2.1 hS cx.2.2.2.1 (cx.2.2.2.2.1 _ (in_g (List.mem_of_getElem? (i := 1282) (by decide +kernel)) (by decide +kernel))) (fun _ h => h) hd (k cx H locs ls hP hS hl)
theorem r_scomp (hd : decode cc pc = .ok (.getstatic 38, 3)) (k : V κ cc RJ0 nL ret R Q M (pc + 3) f (.int 1 :: st)) : V κ cc RJ0 nL ret R Q M pc f st := fun cx H locs ls hP hS hl =>
  va_gets cx.1 cx.2.1 cx.2.2.2.2.2.2.1.2.2.2.2 hS cx.2.2.2.1 (cx.2.2.2.2.1 _ (in_g (List.mem_of_getElem? (i := 386) (by decide +kernel)) (by decide +kernel))) (fun _ h => h) hd (k cx H locs ls hP hS hl)
theorem r_slen {own : String} (hd : decode cc pc = .ok (.arraylength, 1)) (k : V κ cc own nL ret R Q M (pc + 1) f (.int (nI 5) :: st)) : V κ cc own nL ret R Q M pc f (.ref (gA κ.G 88) :: st) := fun cx H locs ls hP hS hl =>
  va_tlen cx.1 cx.2.1 (cx.2.2.2.2.2.2.1.2.2.2.1.1 0 (by decide)).2.2.2 hS rfl hd (k cx H locs ls hP hS hl)
theorem r_sbyt {own : String} {n : Nat} (hd : decode cc pc = .ok (.baload, 1)) (hn : n < 5) (k : V κ cc own nL ret R Q M (pc + 1) f (.int (([112, 114, 99, 111, 116] : List Int32).getD n 0) :: st)) : V κ cc own nL ret R Q M pc f (.int (nI n) :: .ref (gA κ.G 88) :: st) := fun cx H locs ls hP hS hl =>
  va_tb cx.1 cx.2.1 (cx.2.2.2.2.2.2.1.2.2.2.1.1 0 (by decide)).2.2.2 hS (vp_in_nI hn (show (5 : Nat) < 2 ^ 31 by decide)) (by rw [nI_clamp (by omega)]; rfl) hd (k cx H locs ls hP hS hl)
theorem r_kaG (hd : decode cc pc = .ok (.getstatic 308, 3)) (k : V κ cc RX5 nL ret R Q M (pc + 3) f (.ref (gA κ.G 89) :: st)) : V κ cc RX5 nL ret R Q M pc f st := fun cx H locs ls hP hS hl =>
  va_gets cx.1 cx.2.1 cx.2.2.2.2.2.2.1.1 hS cx.2.2.2.1 (cx.2.2.2.2.1 _ (in_g (List.mem_of_getElem? (i := 771) (by decide +kernel)) (by decide +kernel))) (fun _ h => h) hd (k cx H locs ls hP hS hl)
theorem r_kaL {own : String} (hd : decode cc pc = .ok (.arraylength, 1)) (k : V κ cc own nL ret R Q M (pc + 1) f (.int (nI 6) :: st)) : V κ cc own nL ret R Q M pc f (.ref (gA κ.G 89) :: st) := fun cx H locs ls hP hS hl =>
  va_tlen cx.1 cx.2.1 cx.2.2.2.2.2.2.1.2.1 hS rfl hd (k cx H locs ls hP hS hl)
def kaN (n : Nat) : Int32 := if n = 0 then -1000000 else if n = 1 then nI 0 else if n = 2 then nI 1 else if n = 3 then nI 1 else if n = 4 then nI 0 else nI 4
theorem r_kaA {own : String} {n : Nat} (hd : decode cc pc = .ok (.iaload, 1)) (hn : n < 6) (k : V κ cc own nL ret R Q M (pc + 1) f (.int (kaN n) :: st)) : V κ cc own nL ret R Q M pc f (.int (nI n) :: .ref (gA κ.G 89) :: st) := fun cx H locs ls hP hS hl =>
  va_ti cx.1 cx.2.1 cx.2.2.2.2.2.2.1.2.1 hS (vp_in_nI hn (by omega)) (by rw [nI_clamp (by omega)]; exact (by decide : ∀ n : Nat, n < 6 → kaF n = .int (kaN n)) n hn) hd (k cx H locs ls hP hS hl)
theorem r_bret {own : String} {P : Option Value → Mem → Prop} {v : Int32} (hd : decode cc pc = .ok (.ireturn, 1)) (hr : ret = some .byte) (hn : narrow .byte (.int v) = .int v) (hp : P (some (.int v)) M) : V κ cc own nL ret R (QM κ P) M pc f [.int v] := fun cx H locs ls hP hS hl =>
  W.zret (Qc := QcG κ.G P) (ty := .byte) cx.1 cx.2.1 (by rw [← hr]; exact cx.2.2.2.2.2.2.2.2) hn (fun t ht _ => ⟨⟨_, M, rfl, hp, by rw [ht]; exact hP⟩, hS.F ht⟩) hS.2.2 hd (hlocks := cx.2.2.2.2.2.2.2.1)
theorem r_callVs {own : String} {y : MethodName} {cb : ByteArray} {n fr lo i n' : Nat} {rt : Option FieldType} {As : List Value} {P : Option Value → Mem → Prop} (hw : Cond.methodLink own i y ∈ gtbl) (h1 : Cond.instanceMethod y ∈ gtbl) (h2 : Cond.selects RJ0 y y ∈ gtbl) (h3 : Cond.initialized RJ0 ∈ gtbl) (h4 : Cond.code y cb n rt ∈ gtbl) (hy : y.cls = RJ0 ∧ y.cls ≠ "java/lang/invoke/MethodHandle" ∧ y.cls ≠ "java/lang/invoke/VarHandle" ∧ (parseMethodDescriptor y.desc).map (fun d => d.parameters.length) = some n') (hn : As.length = n')
    (hC : Con κ.l κ.G y cb n rt fr lo (.ref (gA κ.G 87) :: As) M P) (hR : fr + 1 ≤ R.frames ∧ 8 + (n + 11) + lo ≤ R.locals) (hst : (st.map fun v => v.category).sum ≤ 8) (hcs : κ.k ≤ R.cells ∧ κ.n ≤ R.slots) (hd : decode cc pc = .ok (.invokevirtual i, 3)) (k : ∀ (v : Option Value) (M' : Mem), P v M' → V κ cc own nL ret R Q M' (pc + 3) f (v.toList ++ st)) : V κ cc own nL ret R Q M pc f (As.reverse ++ .ref (gA κ.G 87) :: st) := fun cx H locs ls hP hS hl =>
  va_callG (va_runV (As := As) (rest := st) (C := RJ0) (bytes := cb) (maxL := n) (ret := rt) ⟨cx.1, cx.2.1, cx.2.2.1, cx.2.2.2.1, cx.2.2.2.2.1⟩ hC (cwV n' cx.2.2.2.2.1 (by
      intro w hw'
      rcases List.mem_append.mp hw' with h | h
      · have : w ∈ gtbl := by
          simp only [List.mem_cons, List.not_mem_nil, or_false] at h
          rcases h with rfl | rfl | rfl | rfl <;> assumption
        exact ⟨this, gtbl_good this⟩
      · exact good_g h4 w h) rfl rfl rfl hy hR) ⟨PcG_blind _ _ _, vk_recv (i := 0) cx.2.2.2.2.2.2.1.2.2.2.1 (by decide) hS, preG (cx := cx) hP hS _⟩ rfl hn hl.1 rfl (lv_room hst) hd hcs) hS (fun v M' H1 locs1 hp hP1 hS1 => k v M' hp cx H1 locs1 ls hP1 hS1 hl)
end KIT3
section IVJ
variable {κ : Kx} {cc : ByteArray} {nL : Nat} {ret : Option FieldType} {R : Room} {Q : State → Prop} {M : Mem} {pc : Nat} {f : List (Option Value)} {st : List Value}
theorem iv_X5_184 {v1 : Value} {fr lo : Nat} {P : Option Value → Mem → Prop} (hC : Con κ.l κ.G yJ6_bitCount_0f7a4 cJ6_bitCount_0f7a4 1 (some .int) fr lo [v1] M P) (hd : decode cc pc = .ok (.invokestatic 184, 3)) (hR : fr + 1 ≤ R.frames ∧ 8 + (1 + 11) + lo ≤ R.locals) (hst : (st.map fun v => v.category).sum ≤ 8) (hcs : κ.k ≤ R.cells ∧ κ.n ≤ R.slots) (k : ∀ (v : Option Value) (M' : Mem), P v M' → V κ cc RX5 nL ret R Q M' (pc + 3) f (v.toList ++ st)) : V κ cc RX5 nL ret R Q M pc f (v1 :: st) := r_callS (n' := 1) (As := [v1]) (in_g (List.mem_of_getElem? (i := 558) (by decide +kernel)) (by decide +kernel)) (in_g (List.mem_of_getElem? (i := 559) (by decide +kernel)) (by decide +kernel)) (in_g (List.mem_of_getElem? (i := 86) (by decide +kernel)) (by decide +kernel)) (in_g (List.mem_of_getElem? (i := 560) (by decide +kernel)) (by decide +kernel)) (by decide +kernel) rfl hC hR hst hcs hd k
theorem iv_X3_22 {v1 v2 : Value} {fr lo : Nat} {P : Option Value → Mem → Prop} (hC : Con κ.l κ.G yJ7_fill_53178 cJ7_fill_53178 4 none fr lo [v1, v2] M P) (hd : decode cc pc = .ok (.invokestatic 22, 3)) (hR : fr + 1 ≤ R.frames ∧ 8 + (4 + 11) + lo ≤ R.locals) (hst : (st.map fun v => v.category).sum ≤ 8) (hcs : κ.k ≤ R.cells ∧ κ.n ≤ R.slots) (k : ∀ (v : Option Value) (M' : Mem), P v M' → V κ cc RX3 nL ret R Q M' (pc + 3) f (v.toList ++ st)) : V κ cc RX3 nL ret R Q M pc f (v2 :: v1 :: st) := r_callS (n' := 2) (As := [v1, v2]) (in_g (List.mem_of_getElem? (i := 293) (by decide +kernel)) (by decide +kernel)) (in_g (List.mem_of_getElem? (i := 294) (by decide +kernel)) (by decide +kernel)) (in_g (List.mem_of_getElem? (i := 78) (by decide +kernel)) (by decide +kernel)) (in_g (List.mem_of_getElem? (i := 295) (by decide +kernel)) (by decide +kernel)) (by decide +kernel) rfl hC hR hst hcs hd k
theorem iv_X4_53 {v1 : Value} {fr lo : Nat} {P : Option Value → Mem → Prop} (hC : Con κ.l κ.G yJ0_indexOf_0f7a4 cJ0_indexOf_0f7a4 2 (some .int) fr lo [.ref (gA κ.G 87), v1] M P) (hd : decode cc pc = .ok (.invokevirtual 53, 3)) (hR : fr + 1 ≤ R.frames ∧ 8 + (2 + 11) + lo ≤ R.locals) (hst : (st.map fun v => v.category).sum ≤ 8) (hcs : κ.k ≤ R.cells ∧ κ.n ≤ R.slots) (k : ∀ (v : Option Value) (M' : Mem), P v M' → V κ cc RX4 nL ret R Q M' (pc + 3) f (v.toList ++ st)) : V κ cc RX4 nL ret R Q M pc f (v1 :: .ref (gA κ.G 87) :: st) := r_callVs (n' := 1) (As := [v1]) (in_g (List.mem_of_getElem? (i := 374) (by decide +kernel)) (by decide +kernel)) (in_g (List.mem_of_getElem? (i := 375) (by decide +kernel)) (by decide +kernel)) (in_g (List.mem_of_getElem? (i := 376) (by decide +kernel)) (by decide +kernel)) (in_g (List.mem_of_getElem? (i := 80) (by decide +kernel)) (by decide +kernel)) (in_g (List.mem_of_getElem? (i := 377) (by decide +kernel)) (by decide +kernel)) (by decide +kernel) rfl hC hR hst hcs hd k
theorem iv_J0_633 {v1 v2 : Value} {fr lo : Nat} {P : Option Value → Mem → Prop} (hC : Con κ.l κ.G yJ0_indexOf_7cf53 cJ0_indexOf_7cf53 3 (some .int) fr lo [.ref (gA κ.G 87), v1, v2] M P) (hd : decode cc pc = .ok (.invokevirtual 633, 3)) (hR : fr + 1 ≤ R.frames ∧ 8 + (3 + 11) + lo ≤ R.locals) (hst : (st.map fun v => v.category).sum ≤ 8) (hcs : κ.k ≤ R.cells ∧ κ.n ≤ R.slots) (k : ∀ (v : Option Value) (M' : Mem), P v M' → V κ cc RJ0 nL ret R Q M' (pc + 3) f (v.toList ++ st)) : V κ cc RJ0 nL ret R Q M pc f (v2 :: v1 :: .ref (gA κ.G 87) :: st) := r_callVs (n' := 2) (As := [v1, v2]) (in_g (List.mem_of_getElem? (i := 378) (by decide +kernel)) (by decide +kernel)) (in_g (List.mem_of_getElem? (i := 379) (by decide +kernel)) (by decide +kernel)) (in_g (List.mem_of_getElem? (i := 380) (by decide +kernel)) (by decide +kernel)) (in_g (List.mem_of_getElem? (i := 80) (by decide +kernel)) (by decide +kernel)) (in_g (List.mem_of_getElem? (i := 381) (by decide +kernel)) (by decide +kernel)) (by decide +kernel) rfl hC hR hst hcs hd k
theorem iv_J0_492 {fr lo : Nat} {P : Option Value → Mem → Prop} (hC : Con κ.l κ.G yJ0_isLatin1_aae02 cJ0_isLatin1_aae02 1 (some .boolean) fr lo [.ref (gA κ.G 87)] M P) (hd : decode cc pc = .ok (.invokevirtual 492, 3)) (hR : fr + 1 ≤ R.frames ∧ 8 + (1 + 11) + lo ≤ R.locals) (hst : (st.map fun v => v.category).sum ≤ 8) (hcs : κ.k ≤ R.cells ∧ κ.n ≤ R.slots) (k : ∀ (v : Option Value) (M' : Mem), P v M' → V κ cc RJ0 nL ret R Q M' (pc + 3) f (v.toList ++ st)) : V κ cc RJ0 nL ret R Q M pc f (.ref (gA κ.G 87) :: st) := r_callVs (n' := 0) (As := []) (in_g (List.mem_of_getElem? (i := 382) (by decide +kernel)) (by decide +kernel)) (in_g (List.mem_of_getElem? (i := 383) (by decide +kernel)) (by decide +kernel)) (in_g (List.mem_of_getElem? (i := 384) (by decide +kernel)) (by decide +kernel)) (in_g (List.mem_of_getElem? (i := 80) (by decide +kernel)) (by decide +kernel)) (in_g (List.mem_of_getElem? (i := 385) (by decide +kernel)) (by decide +kernel)) (by decide +kernel) rfl hC hR hst hcs hd k
theorem iv_J0_505 {fr lo : Nat} {P : Option Value → Mem → Prop} (hC : Con κ.l κ.G yJ0_length_8abf5 cJ0_length_8abf5 1 (some .int) fr lo [.ref (gA κ.G 87)] M P) (hd : decode cc pc = .ok (.invokevirtual 505, 3)) (hR : fr + 1 ≤ R.frames ∧ 8 + (1 + 11) + lo ≤ R.locals) (hst : (st.map fun v => v.category).sum ≤ 8) (hcs : κ.k ≤ R.cells ∧ κ.n ≤ R.slots) (k : ∀ (v : Option Value) (M' : Mem), P v M' → V κ cc RJ0 nL ret R Q M' (pc + 3) f (v.toList ++ st)) : V κ cc RJ0 nL ret R Q M pc f (.ref (gA κ.G 87) :: st) := r_callVs (n' := 0) (As := []) (in_g (List.mem_of_getElem? (i := 388) (by decide +kernel)) (by decide +kernel)) (in_g (List.mem_of_getElem? (i := 389) (by decide +kernel)) (by decide +kernel)) (in_g (List.mem_of_getElem? (i := 390) (by decide +kernel)) (by decide +kernel)) (in_g (List.mem_of_getElem? (i := 80) (by decide +kernel)) (by decide +kernel)) (in_g (List.mem_of_getElem? (i := 391) (by decide +kernel)) (by decide +kernel)) (by decide +kernel) rfl hC hR hst hcs hd k
theorem iv_J0_335 {fr lo : Nat} {P : Option Value → Mem → Prop} (hC : Con κ.l κ.G yJ0_coder_7d493 cJ0_coder_7d493 1 (some .byte) fr lo [.ref (gA κ.G 87)] M P) (hd : decode cc pc = .ok (.invokevirtual 335, 3)) (hR : fr + 1 ≤ R.frames ∧ 8 + (1 + 11) + lo ≤ R.locals) (hst : (st.map fun v => v.category).sum ≤ 8) (hcs : κ.k ≤ R.cells ∧ κ.n ≤ R.slots) (k : ∀ (v : Option Value) (M' : Mem), P v M' → V κ cc RJ0 nL ret R Q M' (pc + 3) f (v.toList ++ st)) : V κ cc RJ0 nL ret R Q M pc f (.ref (gA κ.G 87) :: st) := r_callVs (n' := 0) (As := []) (in_g (List.mem_of_getElem? (i := 392) (by decide +kernel)) (by decide +kernel)) (in_g (List.mem_of_getElem? (i := 393) (by decide +kernel)) (by decide +kernel)) (in_g (List.mem_of_getElem? (i := 394) (by decide +kernel)) (by decide +kernel)) (in_g (List.mem_of_getElem? (i := 80) (by decide +kernel)) (by decide +kernel)) (in_g (List.mem_of_getElem? (i := 395) (by decide +kernel)) (by decide +kernel)) (by decide +kernel) rfl hC hR hst hcs hd k
theorem iv_J0_637 {v1 v2 v3 v4 : Value} {fr lo : Nat} {P : Option Value → Mem → Prop} (hC : Con κ.l κ.G yJ1_indexOf_4cfef cJ1_indexOf_4cfef 4 (some .int) fr lo [v1, v2, v3, v4] M P) (hd : decode cc pc = .ok (.invokestatic 637, 3)) (hR : fr + 1 ≤ R.frames ∧ 8 + (4 + 11) + lo ≤ R.locals) (hst : (st.map fun v => v.category).sum ≤ 8) (hcs : κ.k ≤ R.cells ∧ κ.n ≤ R.slots) (k : ∀ (v : Option Value) (M' : Mem), P v M' → V κ cc RJ0 nL ret R Q M' (pc + 3) f (v.toList ++ st)) : V κ cc RJ0 nL ret R Q M pc f (v4 :: v3 :: v2 :: v1 :: st) := r_callS (n' := 4) (As := [v1, v2, v3, v4]) (in_g (List.mem_of_getElem? (i := 396) (by decide +kernel)) (by decide +kernel)) (in_g (List.mem_of_getElem? (i := 397) (by decide +kernel)) (by decide +kernel)) (in_g (List.mem_of_getElem? (i := 81) (by decide +kernel)) (by decide +kernel)) (in_g (List.mem_of_getElem? (i := 398) (by decide +kernel)) (by decide +kernel)) (by decide +kernel) rfl hC hR hst hcs hd k
theorem iv_J1_88 {v1 : Value} {fr lo : Nat} {P : Option Value → Mem → Prop} (hC : Con κ.l κ.G yJ1_canEncode_9a6ad cJ1_canEncode_9a6ad 1 (some .boolean) fr lo [v1] M P) (hd : decode cc pc = .ok (.invokestatic 88, 3)) (hR : fr + 1 ≤ R.frames ∧ 8 + (1 + 11) + lo ≤ R.locals) (hst : (st.map fun v => v.category).sum ≤ 8) (hcs : κ.k ≤ R.cells ∧ κ.n ≤ R.slots) (k : ∀ (v : Option Value) (M' : Mem), P v M' → V κ cc RJ1 nL ret R Q M' (pc + 3) f (v.toList ++ st)) : V κ cc RJ1 nL ret R Q M pc f (v1 :: st) := r_callS (n' := 1) (As := [v1]) (in_g (List.mem_of_getElem? (i := 399) (by decide +kernel)) (by decide +kernel)) (in_g (List.mem_of_getElem? (i := 400) (by decide +kernel)) (by decide +kernel)) (in_g (List.mem_of_getElem? (i := 81) (by decide +kernel)) (by decide +kernel)) (in_g (List.mem_of_getElem? (i := 401) (by decide +kernel)) (by decide +kernel)) (by decide +kernel) rfl hC hR hst hcs hd k
theorem iv_J1_95 {v1 v2 v3 v4 : Value} {fr lo : Nat} {P : Option Value → Mem → Prop} (hC : Con κ.l κ.G yJ1_indexOfChar_4cfef cJ1_indexOfChar_4cfef 6 (some .int) fr lo [v1, v2, v3, v4] M P) (hd : decode cc pc = .ok (.invokestatic 95, 3)) (hR : fr + 1 ≤ R.frames ∧ 8 + (6 + 11) + lo ≤ R.locals) (hst : (st.map fun v => v.category).sum ≤ 8) (hcs : κ.k ≤ R.cells ∧ κ.n ≤ R.slots) (k : ∀ (v : Option Value) (M' : Mem), P v M' → V κ cc RJ1 nL ret R Q M' (pc + 3) f (v.toList ++ st)) : V κ cc RJ1 nL ret R Q M pc f (v4 :: v3 :: v2 :: v1 :: st) := r_callS (n' := 4) (As := [v1, v2, v3, v4]) (in_g (List.mem_of_getElem? (i := 408) (by decide +kernel)) (by decide +kernel)) (in_g (List.mem_of_getElem? (i := 409) (by decide +kernel)) (by decide +kernel)) (in_g (List.mem_of_getElem? (i := 81) (by decide +kernel)) (by decide +kernel)) (in_g (List.mem_of_getElem? (i := 410) (by decide +kernel)) (by decide +kernel)) (by decide +kernel) rfl hC hR hst hcs hd k
end IVJ
theorem wl_J1_92 : Cond.methodLink RJ1 92 Lib.Math.max.name ∈ gtbl := in_g (List.mem_of_getElem? (i := 402) (by decide +kernel)) (by decide +kernel)
theorem wl_J1_38 : Cond.methodLink RJ1 38 Lib.Math.min.name ∈ gtbl := in_g (List.mem_of_getElem? (i := 405) (by decide +kernel)) (by decide +kernel)
def usr (x y : Int32) : Int32 := (x.toUInt32 >>> (y.toUInt32 &&& Int32.toUInt32 31)).toInt32
def bcA (x : Int32) : Int32 := x - (usr x (nI 1) &&& 1431655765)
def bcB (x : Int32) : Int32 := (x &&& 858993459) + (usr x (nI 2) &&& 858993459)
def bcC (x : Int32) : Int32 := (x + usr x (nI 4)) &&& 252645135
def bcD (x : Int32) : Int32 := x + usr x (nI 8)
def bcE (x : Int32) : Int32 := x + usr x (nI 16)
theorem bc_pop : ∀ w : Nat, w < 64 → bcE (bcD (bcC (bcB (bcA (nI w))))) &&& nI 63 = nI (pop w) := by decide +kernel
set_option maxHeartbeats 4000000 in
set_option maxRecDepth 100000 in
theorem c_J6_bitCount (l : Launch) (G : Gx) (M : Mem) (w : Nat) (hw : w < 64) : Con l G yJ6_bitCount_0f7a4 cJ6_bitCount_0f7a4 1 (some .int) 0 0 [.int (nI w)] M (rI (nI (pop w)) M) := by
  refine Con.ofV [some (.int (nI w))] RJ6 (by decide) rfl (Nat.le_of_ble_eq_true rfl) rfl ?_
  intro κ hl hG hk0 hn0
  subst hl hG
  have hcs : κ.k ≤ 0 ∧ κ.n ≤ 0 := ⟨Nat.le_of_eq hk0, Nat.le_of_eq hn0⟩
  refine r_iload_n (pc := 0) dJ6_bitCount_0f7a4_0 rfl ?_
  refine r_iload_n (pc := 1) dJ6_bitCount_0f7a4_1 rfl ?_
  refine r_iconst (v := nI 1) (pc := 2) dJ6_bitCount_0f7a4_2 (by decide) ?_
  refine r_iushr (pc := 3) dJ6_bitCount_0f7a4_3 rfl ?_
  refine r_ldcw (pc := 4) dJ6_bitCount_0f7a4_4 lk_J6_265 ?_
  refine r_iand (pc := 7) dJ6_bitCount_0f7a4_7 ?_
  first | (with_reducible refine r_isubN (pc := 8) dJ6_bitCount_0f7a4_8 ?hle ?_; case hle => omega) | refine r_isub (pc := 8) dJ6_bitCount_0f7a4_8 ?_
  refine r_is (bcA (nI w)) rfl ?_
  refine r_st_n [_] (pc := 9) dJ6_bitCount_0f7a4_9 (by decide) rfl rfl ?_
  refine r_iload_n (pc := 10) dJ6_bitCount_0f7a4_10 rfl ?_
  refine r_ldcw (pc := 11) dJ6_bitCount_0f7a4_11 lk_J6_266 ?_
  refine r_iand (pc := 14) dJ6_bitCount_0f7a4_14 ?_
  refine r_iload_n (pc := 15) dJ6_bitCount_0f7a4_15 rfl ?_
  refine r_iconst (v := nI 2) (pc := 16) dJ6_bitCount_0f7a4_16 (by decide) ?_
  refine r_iushr (pc := 17) dJ6_bitCount_0f7a4_17 rfl ?_
  refine r_ldcw (pc := 18) dJ6_bitCount_0f7a4_18 lk_J6_266 ?_
  refine r_iand (pc := 21) dJ6_bitCount_0f7a4_21 ?_
  first | with_reducible refine r_iaddN (pc := 22) dJ6_bitCount_0f7a4_22 ?_ | refine r_iadd (pc := 22) dJ6_bitCount_0f7a4_22 ?_
  refine r_is (bcB (bcA (nI w))) rfl ?_
  refine r_st_n [_] (pc := 23) dJ6_bitCount_0f7a4_23 (by decide) rfl rfl ?_
  refine r_iload_n (pc := 24) dJ6_bitCount_0f7a4_24 rfl ?_
  refine r_iload_n (pc := 25) dJ6_bitCount_0f7a4_25 rfl ?_
  refine r_iconst (v := nI 4) (pc := 26) dJ6_bitCount_0f7a4_26 (by decide) ?_
  refine r_iushr (pc := 27) dJ6_bitCount_0f7a4_27 rfl ?_
  first | with_reducible refine r_iaddN (pc := 28) dJ6_bitCount_0f7a4_28 ?_ | refine r_iadd (pc := 28) dJ6_bitCount_0f7a4_28 ?_
  refine r_ldcw (pc := 29) dJ6_bitCount_0f7a4_29 lk_J6_267 ?_
  refine r_iand (pc := 32) dJ6_bitCount_0f7a4_32 ?_
  refine r_is (bcC (bcB (bcA (nI w)))) rfl ?_
  refine r_st_n [_] (pc := 33) dJ6_bitCount_0f7a4_33 (by decide) rfl rfl ?_
  refine r_iload_n (pc := 34) dJ6_bitCount_0f7a4_34 rfl ?_
  refine r_iload_n (pc := 35) dJ6_bitCount_0f7a4_35 rfl ?_
  refine r_bipush (v := nI 8) (pc := 36) dJ6_bitCount_0f7a4_36 (by decide) ?_
  refine r_iushr (pc := 38) dJ6_bitCount_0f7a4_38 rfl ?_
  first | with_reducible refine r_iaddN (pc := 39) dJ6_bitCount_0f7a4_39 ?_ | refine r_iadd (pc := 39) dJ6_bitCount_0f7a4_39 ?_
  refine r_is (bcD (bcC (bcB (bcA (nI w))))) rfl ?_
  refine r_st_n [_] (pc := 40) dJ6_bitCount_0f7a4_40 (by decide) rfl rfl ?_
  refine r_iload_n (pc := 41) dJ6_bitCount_0f7a4_41 rfl ?_
  refine r_iload_n (pc := 42) dJ6_bitCount_0f7a4_42 rfl ?_
  refine r_bipush (v := nI 16) (pc := 43) dJ6_bitCount_0f7a4_43 (by decide) ?_
  refine r_iushr (pc := 45) dJ6_bitCount_0f7a4_45 rfl ?_
  first | with_reducible refine r_iaddN (pc := 46) dJ6_bitCount_0f7a4_46 ?_ | refine r_iadd (pc := 46) dJ6_bitCount_0f7a4_46 ?_
  refine r_is (bcE (bcD (bcC (bcB (bcA (nI w)))))) rfl ?_
  refine r_st_n [_] (pc := 47) dJ6_bitCount_0f7a4_47 (by decide) rfl rfl ?_
  refine r_iload_n (pc := 48) dJ6_bitCount_0f7a4_48 rfl ?_
  refine r_bipush (v := nI 63) (pc := 49) dJ6_bitCount_0f7a4_49 (by decide) ?_
  refine r_iand (pc := 51) dJ6_bitCount_0f7a4_51 ?_
  refine r_is (nI (pop w)) (bc_pop w hw) ?_
  exact r_iret (pc := 52) dJ6_bitCount_0f7a4_52 rfl ⟨rfl, rfl⟩
set_option maxHeartbeats 4000000 in
set_option maxRecDepth 100000 in
theorem c_J7_fill (l : Launch) (G : Gx) (M : Mem) (e : Nat) (v : Int32) (he : isIA e = true) : Con l G yJ7_fill_53178 cJ7_fill_53178 4 none 0 0 [.ref (gA G e), .int v] M (rV (setA M e (pt (M e) (fun _ => v) (lenA e)))) := by
  refine Con.ofV [some (.ref (gA G e)), some (.int v), none, none] RJ7 (by decide) rfl (Nat.le_of_ble_eq_true rfl) rfl ?_
  intro κ hl hG hk0 hn0
  subst hl hG
  have hcs : κ.k ≤ 0 ∧ κ.n ≤ 0 := ⟨Nat.le_of_eq hk0, Nat.le_of_eq hn0⟩
  have hl9 := lenA_le he
  refine r_iconst (v := nI 0) (pc := 0) dJ7_fill_53178_0 (by decide) ?_
  refine r_st_n [_, _, _, _] (pc := 1) dJ7_fill_53178_1 (by decide) rfl rfl ?_
  refine r_aload_n (pc := 2) dJ7_fill_53178_2 rfl ?_
  refine r_alen (pc := 3) dJ7_fill_53178_3 he ?_
  refine r_st_n [_, _, _, _] (pc := 4) dJ7_fill_53178_4 (by decide) rfl rfl ?_
  refine V.bk (loopV (fun (σ : Nat) => V κ cJ7_fill_53178 RJ7 4 none (rmx 0 0) (QM κ (rV (setA M e (pt (M e) (fun _ => v) (lenA e))))) (setA M e (pt (M e) (fun _ => v) σ)) 5 [some (.ref (gA κ.G e)), some (.int v), some (.int (nI σ)), some (.int (nI (lenA e)))] []) (fun (σ : Nat) => σ ≤ lenA e) (fun (σ : Nat) => lenA e - σ) ?_ 0 (Nat.zero_le _)) (by rw [pt_0]; exact (setA_id' _ rfl).symm) (by (repeat (first | exact wk_0 | refine wk_n ?_ | refine wk_s rfl ?_)); done)
  rintro j hj ih
  show V κ cJ7_fill_53178 RJ7 4 none (rmx 0 0) (QM κ (rV (setA M e (pt (M e) (fun _ => v) (lenA e))))) (setA M e (pt (M e) (fun _ => v) j)) 5 [some (.ref (gA κ.G e)), some (.int v), some (.int (nI j)), some (.int (nI (lenA e)))] []
  refine r_iload_n (pc := 5) dJ7_fill_53178_5 rfl ?_
  refine r_iload_n (pc := 6) dJ7_fill_53178_6 rfl ?_
  refine r_icmp_ge (tgt := 20) (pc := 7) dJ7_fill_53178_7 (by decide) (fun h7 => ?_) (fun h7 => ?_)
  · have h7 : lenA e ≤ j := (nI_leI (by omega) (by omega)).mp h7
    obtain e5 : lenA e = j := by omega
    subst e5
    exact r_vret (pc := 20) dJ7_fill_53178_20 rfl ⟨rfl, rfl⟩
  · have h7 : j < lenA e := Nat.not_le.mp (fun z => h7 ((nI_leI (by omega) (by omega)).mpr z))
    refine r_aload_n (pc := 10) dJ7_fill_53178_10 rfl ?_
    refine r_iload_n (pc := 11) dJ7_fill_53178_11 rfl ?_
    refine r_iload_n (pc := 12) dJ7_fill_53178_12 rfl ?_
    refine r_iast (pc := 13) dJ7_fill_53178_13 he (by omega) ?_
    first | refine r_inc [_, _, _, _] (pc := 14) dJ7_fill_53178_14 rfl (nI_inc _) (by decide) rfl rfl ?_ | refine r_inc [_, _, _, _] (pc := 14) dJ7_fill_53178_14 rfl rfl (by decide) rfl rfl ?_
    refine r_goto (tgt := 5) (pc := 17) dJ7_fill_53178_17 (by decide) ?_
    exact V.bk (ih (j + 1) (by omega) (by omega)) (by rw [mset, setA_eq, setA_setA, pt_s (M e) (fun _ => v)]) (by (repeat (first | exact wk_0 | refine wk_n ?_ | refine wk_s rfl ?_)); done)
def bN (j : Nat) : Nat := if j = 0 then 112 else if j = 1 then 114 else if j = 2 then 99 else if j = 3 then 111 else 116
def idxC (c : Nat) : Int32 := if c = 112 then nI 0 else if c = 114 then nI 1 else if c = 99 then nI 2 else if c = 111 then nI 3 else if c = 116 then nI 4 else -1
theorem bt_eq : ∀ c : Nat, c < 256 → ∀ j : Nat, j < 5 → (([112, 114, 99, 111, 116] : List Int32).getD j 0 = (nI c).toInt8.toInt32 ↔ c = bN j) := by decide +kernel
theorem idx_y : ∀ j : Nat, j < 5 → idxC (bN j) = nI j := by decide
theorem idx_n {c : Nat} (h : ∀ i, i < 5 → c ≠ bN i) : idxC c = -1 := by
  unfold idxC
  rw [if_neg (show ¬ c = 112 from h 0 (by omega)), if_neg (show ¬ c = 114 from h 1 (by omega)), if_neg (show ¬ c = 99 from h 2 (by omega)), if_neg (show ¬ c = 111 from h 3 (by omega)), if_neg (show ¬ c = 116 from h 4 (by omega))]
set_option maxHeartbeats 4000000 in
set_option maxRecDepth 100000 in
theorem c_J1_canEncode (l : Launch) (G : Gx) (M : Mem) (c : Nat) (hc : c < 256) : Con l G yJ1_canEncode_9a6ad cJ1_canEncode_9a6ad 1 (some .boolean) 0 0 [.int (nI c)] M (rI (bI True) M) := by
  refine Con.ofV [some (.int (nI c))] RJ1 (by decide) rfl (Nat.le_of_ble_eq_true rfl) rfl ?_
  intro κ hl hG hk0 hn0
  subst hl hG
  have hcs : κ.k ≤ 0 ∧ κ.n ≤ 0 := ⟨Nat.le_of_eq hk0, Nat.le_of_eq hn0⟩
  refine r_iload_n (pc := 0) dJ1_canEncode_9a6ad_0 rfl ?_
  refine r_if_lt (tgt := 15) (pc := 1) dJ1_canEncode_9a6ad_1 (by decide) (fun h1 => ?_) (fun h1 => ?_)
  · exact absurd h1 (nI_pos (by omega))
  · refine r_iload_n (pc := 4) dJ1_canEncode_9a6ad_4 rfl ?_
    refine r_sipush (v := nI 255) (pc := 5) dJ1_canEncode_9a6ad_5 (by decide) ?_
    refine r_icmp_gt (tgt := 15) (pc := 8) dJ1_canEncode_9a6ad_8 (by decide) (fun h8 => ?_) (fun h8 => ?_)
    · exact absurd ((nI_ltI (by omega) (by omega)).mp h8) (by omega)
    · refine r_iconst (v := nI 1) (pc := 11) dJ1_canEncode_9a6ad_11 (by decide) ?_
      refine r_goto (tgt := 16) (pc := 12) dJ1_canEncode_9a6ad_12 (by decide) ?_
      exact r_zret (pc := 16) dJ1_canEncode_9a6ad_16 rfl (by first | rfl | exact bI_narrow) ⟨rfl, rfl⟩
set_option maxHeartbeats 4000000 in
set_option maxRecDepth 100000 in
theorem c_J1_indexOfChar (l : Launch) (G : Gx) (M : Mem) (c : Nat) (hc : c < 256) : Con l G yJ1_indexOfChar_4cfef cJ1_indexOfChar_4cfef 6 (some .int) 0 0 [.ref (gA G 88), .int (nI c), .int (nI 0), .int (nI 5)] M (rI (idxC c) M) := by
  refine Con.ofV [some (.ref (gA G 88)), some (.int (nI c)), some (.int (nI 0)), some (.int (nI 5)), none, none] RJ1 (by decide) rfl (Nat.le_of_ble_eq_true rfl) rfl ?_
  intro κ hl hG hk0 hn0
  subst hl hG
  have hcs : κ.k ≤ 0 ∧ κ.n ≤ 0 := ⟨Nat.le_of_eq hk0, Nat.le_of_eq hn0⟩
  refine r_iload_n (pc := 0) dJ1_indexOfChar_4cfef_0 rfl ?_
  refine r_i2b (pc := 1) dJ1_indexOfChar_4cfef_1 ?_
  refine r_st [_, _, _, _, _, _] (pc := 2) dJ1_indexOfChar_4cfef_2 (by decide) rfl rfl ?_
  refine r_iload_n (pc := 4) dJ1_indexOfChar_4cfef_4 rfl ?_
  refine r_st [_, _, _, _, _, _] (pc := 5) dJ1_indexOfChar_4cfef_5 (by decide) rfl rfl ?_
  refine V.bk (loopV (fun (σ : Nat) => V κ cJ1_indexOfChar_4cfef RJ1 6 (some .int) (rmx 0 0) (QM κ (rI (idxC c) M)) M 7 [some (.ref (gA κ.G 88)), some (.int (nI c)), some (.int (nI 0)), some (.int (nI 5)), some (.int (nI c).toInt8.toInt32), some (.int (nI σ))] []) (fun (σ : Nat) => σ ≤ 5 ∧ ∀ i, i < σ → c ≠ bN i) (fun (σ : Nat) => 5 - σ) ?_ 0 ⟨Nat.zero_le _, fun i h => absurd h (Nat.not_lt_zero i)⟩) rfl (by (repeat (first | exact wk_0 | refine wk_n ?_ | refine wk_s rfl ?_)); done)
  rintro j ⟨hj, hi⟩ ih
  show V κ cJ1_indexOfChar_4cfef RJ1 6 (some .int) (rmx 0 0) (QM κ (rI (idxC c) M)) M 7 [some (.ref (gA κ.G 88)), some (.int (nI c)), some (.int (nI 0)), some (.int (nI 5)), some (.int (nI c).toInt8.toInt32), some (.int (nI j))] []
  refine r_iload (pc := 7) dJ1_indexOfChar_4cfef_7 rfl ?_
  refine r_iload_n (pc := 9) dJ1_indexOfChar_4cfef_9 rfl ?_
  refine r_icmp_ge (tgt := 31) (pc := 10) dJ1_indexOfChar_4cfef_10 (by decide) (fun h10 => ?_) (fun h10 => ?_)
  · have h10 : 5 ≤ j := (nI_leI (by omega) (by omega)).mp h10
    refine r_iconst (v := (-1)) (pc := 31) dJ1_indexOfChar_4cfef_31 (by decide) ?_
    exact r_iret (pc := 32) dJ1_indexOfChar_4cfef_32 rfl ⟨by rw [idx_n (fun i z => hi i (by omega))], rfl⟩
  · have h10 : j < 5 := Nat.not_le.mp (fun z => h10 ((nI_leI (by omega) (by omega)).mpr z))
    refine r_aload_n (pc := 13) dJ1_indexOfChar_4cfef_13 rfl ?_
    refine r_iload (pc := 14) dJ1_indexOfChar_4cfef_14 rfl ?_
    refine r_sbyt (pc := 16) dJ1_indexOfChar_4cfef_16 (by omega) ?_
    refine r_iload (pc := 17) dJ1_indexOfChar_4cfef_17 rfl ?_
    refine r_icmp_ne (tgt := 25) (pc := 19) dJ1_indexOfChar_4cfef_19 (by decide) (fun h19 => ?_) (fun h19 => ?_)
    · first | refine r_inc [_, _, _, _, _, _] (pc := 25) dJ1_indexOfChar_4cfef_25 rfl (nI_inc _) (by decide) rfl rfl ?_ | refine r_inc [_, _, _, _, _, _] (pc := 25) dJ1_indexOfChar_4cfef_25 rfl rfl (by decide) rfl rfl ?_
      refine r_goto (tgt := 7) (pc := 28) dJ1_indexOfChar_4cfef_28 (by decide) ?_
      exact V.bk (ih (j + 1) ⟨by omega, lt_s hi (fun z => h19 ((bt_eq c hc j (by omega)).mpr z))⟩ (by omega)) rfl (by (repeat (first | exact wk_0 | refine wk_n ?_ | refine wk_s rfl ?_)); done)
    · refine r_iload (pc := 22) dJ1_indexOfChar_4cfef_22 rfl ?_
      exact r_iret (pc := 24) dJ1_indexOfChar_4cfef_24 rfl ⟨by rw [show c = bN j from (bt_eq c hc j (by omega)).mp h19, idx_y j (by omega)], rfl⟩
set_option maxHeartbeats 4000000 in
set_option maxRecDepth 100000 in
theorem c_J0_isLatin1 (l : Launch) (G : Gx) (M : Mem)  : Con l G yJ0_isLatin1_aae02 cJ0_isLatin1_aae02 1 (some .boolean) 0 0 [.ref (gA G 87)] M (rI (bI True) M) := by
  refine Con.ofV [some (.ref (gA G 87))] RJ0 (by decide) rfl (Nat.le_of_ble_eq_true rfl) rfl ?_
  intro κ hl hG hk0 hn0
  subst hl hG
  have hcs : κ.k ≤ 0 ∧ κ.n ≤ 0 := ⟨Nat.le_of_eq hk0, Nat.le_of_eq hn0⟩
  refine r_scomp (pc := 0) dJ0_isLatin1_aae02_0 ?_
  refine r_if_eq (tgt := 17) (pc := 3) dJ0_isLatin1_aae02_3 (by decide) (fun h => absurd h (by decide)) (fun _ => ?_)
  refine r_aload_n (pc := 6) dJ0_isLatin1_aae02_6 rfl ?_
  refine r_scod (pc := 7) dJ0_isLatin1_aae02_7 ?_
  refine r_if_ne (tgt := 17) (pc := 10) dJ0_isLatin1_aae02_10 (by decide) (fun h => absurd rfl h) (fun _ => ?_)
  refine r_iconst (v := nI 1) (pc := 13) dJ0_isLatin1_aae02_13 (by decide) ?_
  refine r_goto (tgt := 18) (pc := 14) dJ0_isLatin1_aae02_14 (by decide) ?_
  exact r_zret (pc := 18) dJ0_isLatin1_aae02_18 rfl rfl ⟨rfl, rfl⟩
set_option maxHeartbeats 4000000 in
set_option maxRecDepth 100000 in
theorem c_J0_coder (l : Launch) (G : Gx) (M : Mem)  : Con l G yJ0_coder_7d493 cJ0_coder_7d493 1 (some .byte) 0 0 [.ref (gA G 87)] M (rI 0 M) := by
  refine Con.ofV [some (.ref (gA G 87))] RJ0 (by decide) rfl (Nat.le_of_ble_eq_true rfl) rfl ?_
  intro κ hl hG hk0 hn0
  subst hl hG
  have hcs : κ.k ≤ 0 ∧ κ.n ≤ 0 := ⟨Nat.le_of_eq hk0, Nat.le_of_eq hn0⟩
  refine r_scomp (pc := 0) dJ0_coder_7d493_0 ?_
  refine r_if_eq (tgt := 13) (pc := 3) dJ0_coder_7d493_3 (by decide) (fun h => absurd h (by decide)) (fun _ => ?_)
  refine r_aload_n (pc := 6) dJ0_coder_7d493_6 rfl ?_
  refine r_scod (pc := 7) dJ0_coder_7d493_7 ?_
  refine r_goto (tgt := 14) (pc := 10) dJ0_coder_7d493_10 (by decide) ?_
  exact r_bret (pc := 14) dJ0_coder_7d493_14 rfl rfl ⟨rfl, rfl⟩
set_option maxHeartbeats 4000000 in
set_option maxRecDepth 100000 in
theorem c_J0_length (l : Launch) (G : Gx) (M : Mem)  : Con l G yJ0_length_8abf5 cJ0_length_8abf5 1 (some .int) 1 20 [.ref (gA G 87)] M (rI (nI 5) M) := by
  refine Con.ofV [some (.ref (gA G 87))] RJ0 (by decide) rfl (Nat.le_of_ble_eq_true rfl) rfl ?_
  intro κ hl hG hk0 hn0
  subst hl hG
  have hcs : κ.k ≤ 0 ∧ κ.n ≤ 0 := ⟨Nat.le_of_eq hk0, Nat.le_of_eq hn0⟩
  refine r_aload_n (pc := 0) dJ0_length_8abf5_0 rfl ?_
  refine r_sval (pc := 1) dJ0_length_8abf5_1 ?_
  refine r_slen (pc := 4) dJ0_length_8abf5_4 ?_
  refine r_aload_n (pc := 5) dJ0_length_8abf5_5 rfl ?_
  refine iv_J0_335 (c_J0_coder _ _ _) (pc := 6) dJ0_length_8abf5_6 ⟨Nat.le_of_ble_eq_true rfl, Nat.le_of_ble_eq_true rfl⟩ (Nat.le_of_ble_eq_true rfl) hcs (kI ?_)
  refine r_ishr (pc := 9) dJ0_length_8abf5_9 ?_
  exact r_iret (pc := 10) dJ0_length_8abf5_10 rfl ⟨rfl, rfl⟩
set_option maxHeartbeats 4000000 in
set_option maxRecDepth 100000 in
theorem c_J1_indexOf (l : Launch) (G : Gx) (M : Mem) (c : Nat) (hc : c < 256) : Con l G yJ1_indexOf_4cfef cJ1_indexOf_4cfef 4 (some .int) 1 40 [.ref (gA G 88), .int (nI c), .int (nI 0), .int (nI 5)] M (rI (idxC c) M) := by
  refine Con.ofV [some (.ref (gA G 88)), some (.int (nI c)), some (.int (nI 0)), some (.int (nI 5))] RJ1 (by decide) rfl (Nat.le_of_ble_eq_true rfl) rfl ?_
  intro κ hl hG hk0 hn0
  subst hl hG
  have hcs : κ.k ≤ 0 ∧ κ.n ≤ 0 := ⟨Nat.le_of_eq hk0, Nat.le_of_eq hn0⟩
  refine r_iload_n (pc := 0) dJ1_indexOf_4cfef_0 rfl ?_
  refine iv_J1_88 (c_J1_canEncode _ _ _ c hc) (pc := 1) dJ1_indexOf_4cfef_1 ⟨Nat.le_of_ble_eq_true rfl, Nat.le_of_ble_eq_true rfl⟩ (Nat.le_of_ble_eq_true rfl) hcs (kI ?_)
  refine r_ifne_b (tgt := 9) (pc := 4) dJ1_indexOf_4cfef_4 (by decide) (fun _ => ?_) (fun h => absurd trivial h)
  refine r_iload_n (pc := 9) dJ1_indexOf_4cfef_9 rfl ?_
  refine r_iconst (v := nI 0) (pc := 10) dJ1_indexOf_4cfef_10 (by decide) ?_
  refine r_max (pc := 11) dJ1_indexOf_4cfef_11 wl_J1_92 w_maxS w_MathI w_maxC (Nat.le_of_ble_eq_true rfl) (Nat.le_of_ble_eq_true rfl) hcs.1 hcs.2 ?_
  refine r_is (nI 0) (by decide) ?_
  refine r_st_n [_, _, _, _] (pc := 14) dJ1_indexOf_4cfef_14 (by decide) rfl rfl ?_
  refine r_iload_n (pc := 15) dJ1_indexOf_4cfef_15 rfl ?_
  refine r_aload_n (pc := 16) dJ1_indexOf_4cfef_16 rfl ?_
  refine r_slen (pc := 17) dJ1_indexOf_4cfef_17 ?_
  refine r_min (pc := 18) dJ1_indexOf_4cfef_18 wl_J1_38 w_minS w_MathI w_minC (Nat.le_of_ble_eq_true rfl) (Nat.le_of_ble_eq_true rfl) hcs.1 hcs.2 ?_
  refine r_is (nI 5) (by decide) ?_
  refine r_st_n [_, _, _, _] (pc := 21) dJ1_indexOf_4cfef_21 (by decide) rfl rfl ?_
  refine r_iload_n (pc := 22) dJ1_indexOf_4cfef_22 rfl ?_
  refine r_iload_n (pc := 23) dJ1_indexOf_4cfef_23 rfl ?_
  refine r_icmp_lt (tgt := 29) (pc := 24) dJ1_indexOf_4cfef_24 (by decide) (fun _ => ?_) (fun h => absurd (by decide) h)
  refine r_aload_n (pc := 29) dJ1_indexOf_4cfef_29 rfl ?_
  refine r_iload_n (pc := 30) dJ1_indexOf_4cfef_30 rfl ?_
  refine r_iload_n (pc := 31) dJ1_indexOf_4cfef_31 rfl ?_
  refine r_iload_n (pc := 32) dJ1_indexOf_4cfef_32 rfl ?_
  refine iv_J1_95 (c_J1_indexOfChar _ _ _ c hc) (pc := 33) dJ1_indexOf_4cfef_33 ⟨Nat.le_of_ble_eq_true rfl, Nat.le_of_ble_eq_true rfl⟩ (Nat.le_of_ble_eq_true rfl) hcs (kI ?_)
  exact r_iret (pc := 36) dJ1_indexOf_4cfef_36 rfl ⟨rfl, rfl⟩
set_option maxHeartbeats 4000000 in
set_option maxRecDepth 100000 in
theorem c_J0_indexOf2 (l : Launch) (G : Gx) (M : Mem) (c : Nat) (hc : c < 256) : Con l G yJ0_indexOf_7cf53 cJ0_indexOf_7cf53 3 (some .int) 2 70 [.ref (gA G 87), .int (nI c), .int (nI 0)] M (rI (idxC c) M) := by
  refine Con.ofV [some (.ref (gA G 87)), some (.int (nI c)), some (.int (nI 0))] RJ0 (by decide) rfl (Nat.le_of_ble_eq_true rfl) rfl ?_
  intro κ hl hG hk0 hn0
  subst hl hG
  have hcs : κ.k ≤ 0 ∧ κ.n ≤ 0 := ⟨Nat.le_of_eq hk0, Nat.le_of_eq hn0⟩
  refine r_aload_n (pc := 0) dJ0_indexOf_7cf53_0 rfl ?_
  refine iv_J0_492 (c_J0_isLatin1 _ _ _) (pc := 1) dJ0_indexOf_7cf53_1 ⟨Nat.le_of_ble_eq_true rfl, Nat.le_of_ble_eq_true rfl⟩ (Nat.le_of_ble_eq_true rfl) hcs (kI ?_)
  refine r_ifeq_b (tgt := 23) (pc := 4) dJ0_indexOf_7cf53_4 (by decide) (fun h => absurd trivial h) (fun _ => ?_)
  refine r_aload_n (pc := 7) dJ0_indexOf_7cf53_7 rfl ?_
  refine r_sval (pc := 8) dJ0_indexOf_7cf53_8 ?_
  refine r_iload_n (pc := 11) dJ0_indexOf_7cf53_11 rfl ?_
  refine r_iload_n (pc := 12) dJ0_indexOf_7cf53_12 rfl ?_
  refine r_aload_n (pc := 13) dJ0_indexOf_7cf53_13 rfl ?_
  refine iv_J0_505 (c_J0_length _ _ _) (pc := 14) dJ0_indexOf_7cf53_14 ⟨Nat.le_of_ble_eq_true rfl, Nat.le_of_ble_eq_true rfl⟩ (Nat.le_of_ble_eq_true rfl) hcs (kI ?_)
  refine iv_J0_637 (c_J1_indexOf _ _ _ c hc) (pc := 17) dJ0_indexOf_7cf53_17 ⟨Nat.le_of_ble_eq_true rfl, Nat.le_of_ble_eq_true rfl⟩ (Nat.le_of_ble_eq_true rfl) hcs (kI ?_)
  refine r_goto (tgt := 36) (pc := 20) dJ0_indexOf_7cf53_20 (by decide) ?_
  exact r_iret (pc := 36) dJ0_indexOf_7cf53_36 rfl ⟨rfl, rfl⟩
set_option maxHeartbeats 4000000 in
set_option maxRecDepth 100000 in
theorem c_J0_indexOf (l : Launch) (G : Gx) (M : Mem) (c : Nat) (hc : c < 256) : Con l G yJ0_indexOf_0f7a4 cJ0_indexOf_0f7a4 2 (some .int) 3 95 [.ref (gA G 87), .int (nI c)] M (rI (idxC c) M) := by
  refine Con.ofV [some (.ref (gA G 87)), some (.int (nI c))] RJ0 (by decide) rfl (Nat.le_of_ble_eq_true rfl) rfl ?_
  intro κ hl hG hk0 hn0
  subst hl hG
  have hcs : κ.k ≤ 0 ∧ κ.n ≤ 0 := ⟨Nat.le_of_eq hk0, Nat.le_of_eq hn0⟩
  refine r_aload_n (pc := 0) dJ0_indexOf_0f7a4_0 rfl ?_
  refine r_iload_n (pc := 1) dJ0_indexOf_0f7a4_1 rfl ?_
  refine r_iconst (v := nI 0) (pc := 2) dJ0_indexOf_0f7a4_2 (by decide) ?_
  refine iv_J0_633 (c_J0_indexOf2 _ _ _ c hc) (pc := 3) dJ0_indexOf_0f7a4_3 ⟨Nat.le_of_ble_eq_true rfl, Nat.le_of_ble_eq_true rfl⟩ (Nat.le_of_ble_eq_true rfl) hcs (kI ?_)
  exact r_iret (pc := 6) dJ0_indexOf_0f7a4_6 rfl ⟨rfl, rfl⟩
