/-! MAKING: cells from h on, in the order in which they are made -/
def updE (F : Nat → va_E) (i : Nat) (e : va_E) : Nat → va_E := fun j => if j = i then e else F j
def Wn (h n : Nat) (F : Nat → va_E) : va_W := (List.range n).map (fun i => (h + i, F i))
theorem Wn_len (h n : Nat) (F : Nat → va_E) : (Wn h n F).length = n := by simp [Wn]
theorem Wn_at {h n i : Nat} (F : Nat → va_E) (hi : i < n) : (Wn h n F)[i]? = some (h + i, F i) := by
  unfold Wn
  rw [List.getElem?_map, List.getElem?_range hi]
  rfl
theorem Wn_mem {h n i : Nat} {F : Nat → va_E} {p : Nat × va_E} (hp : (Wn h n F)[i]? = some p) : i < n ∧ p = (h + i, F i) := by
  have hi : i < n := by
    have := (List.getElem?_eq_some_iff.mp hp).1
    rwa [Wn_len] at this
  rw [Wn_at F hi] at hp
  exact ⟨hi, (Option.some.inj hp).symm⟩
theorem Wn_push (h n : Nat) (F : Nat → va_E) (e : va_E) : Wn h n F ++ [(h + n, e)] = Wn h (n + 1) (updE F n e) := by
  apply List.ext_getElem?
  intro i
  by_cases hi : i < n
  · rw [List.getElem?_append_left (by rw [Wn_len]; exact hi), Wn_at F hi, Wn_at _ (by omega)]
    show _ = some (h + i, if i = n then e else F i)
    rw [if_neg (by omega)]
  · by_cases hn : i = n
    · subst hn
      rw [List.getElem?_append_right (by rw [Wn_len]; omega), Wn_len, Nat.sub_self, Wn_at _ (by omega)]
      show _ = some (h + i, if i = i then e else F i)
      rw [if_pos rfl]
      rfl
    · rw [List.getElem?_eq_none (by rw [List.length_append, Wn_len, List.length_singleton]; omega), List.getElem?_eq_none (by rw [Wn_len]; omega)]
theorem Wn_set {h n i : Nat} {F : Nat → va_E} {e : va_E} (hi : i < n) : (Wn h n F).set i (h + i, e) = Wn h n (updE F i e) := by
  apply List.ext_getElem?
  intro j
  by_cases hj : j < n
  · rw [Wn_at _ hj]
    by_cases z : j = i
    · subst z
      rw [List.getElem?_set_self (by rw [Wn_len]; exact hi)]
      show _ = some (h + j, if j = j then e else F j)
      rw [if_pos rfl]
    · rw [List.getElem?_set_ne (Ne.symm z), Wn_at F hj]
      show _ = some (h + j, if j = i then e else F j)
      rw [if_neg z]
  · rw [List.getElem?_eq_none (by rw [List.length_set, Wn_len]; omega), List.getElem?_eq_none (by rw [Wn_len]; omega)]
theorem Wn_D {A : Nat → Prop} {h n : Nat} {F : Nat → va_E} (hA : ∀ i, i < n → A (h + i)) : va_D A (Wn h n F) := by
  refine ⟨fun i j p q hp hq hpq => ?_, fun k q hk => ?_⟩
  · obtain ⟨h1, rfl⟩ := Wn_mem hp
    obtain ⟨h2, rfl⟩ := Wn_mem hq
    dsimp only at hpq
    omega
  · obtain ⟨h1, rfl⟩ := Wn_mem hk
    exact hA k h1
theorem Wn_lt {D : va_G} {cl : List vw_C} {h n n0 ck : Nat} {F : Nat → va_E} {H : Heap} (hP : va_P D cl (Wn h n F) H) (h0 : h + n0 ≤ H.size) (e : n = n0 + ck) : h + n ≤ H.size := by
  by_cases z : ck = 0
  · omega
  · have := (hP (n - 1) _ (Wn_at F (by omega))).lt
    dsimp only at this
    omega
def Bx (G : Gx) (h : Nat) : Prop := ∀ i, i < 87 → Ax G (h + i)
def AO2 (U : State) : Prop := va_AO "ChairRanks$Row" U ∧ (Cond.arrayOver (.array .int)).before #[] U = true
theorem AO2.moved {u U : State} (hvm : u.vm.Alike U.vm) (h : AO2 u) : AO2 U := ⟨h.1.moved hvm, Jvm.Stand.arrayOver_alikeB hvm h.2⟩
theorem W_size {p : Program} {l : Launch} {e : Env} {R : Room} {s : State} {m : MethodId} {args : Array Value} {below : List Frame} {meth : Method} {c : Code} {H : Heap} {locs : List Loc} {cells slots : Nat} {Q : State → Prop} {g : JFrame} {z : Nat} (h1 : z ≤ H.size) (h2 : s.heap.size + cells = z) (kk : H.size = z → W p l e R s m args below meth c H locs cells slots Q g) : W p l e R s m args below meth c H locs cells slots Q g :=
  fun T hT X => kk (by have := X.heapSize; rw [hT] at this; omega) T hT X
/-- the machine in a constructor: n0 cells at its entry, ck more since, of sk slots -/
def U (κ : Kx) (cc : ByteArray) (own : String) (nL : Nat) (ret : Option FieldType) (R : Room) (Q : State → Prop) (h n0 ck sk : Nat) (F : Nat → va_E) (pc : Nat) (f : List (Option Value)) (st : List Value) : Prop :=
  Cx κ cc own nL ret → Bx κ.G h → AO2 κ.s → κ.s.heap.size = h + n0 → ∀ (H : Heap) (locs : List Loc) (ls : Array Slot), va_P κ.G.1 vwCl (Wn h (n0 + ck) F) H → va_S (Ax κ.G) κ.s.heap H locs → lv_has ls nL (lfl 0 f) → W κ.p κ.l κ.e R κ.s κ.m κ.a κ.b κ.h κ.c H locs ck sk Q (F0 κ.m pc ls st)
def QcI (G : Gx) (h n : Nat) (F : Nat → va_E) : Array Value → State → Outcome → State → Prop := fun _ st oc t => (oc = .returned none ∧ va_P G.1 vwCl (Wn h n F) t.heap) ∧ va_F (Ax G) st t
def PcI (G : Gx) (h o n : Nat) (F : Nat → va_E) : Array Value → State → Prop := va_Pc [.ref (h + o)] (fun U => U.heap.size = h + n ∧ va_P G.1 vwCl (Wn h n F) U.heap ∧ KK G U ∧ Ex G U U.heap ∧ AO2 U)
abbrev rmI (fr lo mc ms : Nat) : Room := { frames := fr, cells := mc, slots := ms, locals := lo }
/-- the contract of a constructor: the object at o; n cells before it, n + mc behind it -/
def ConI (l : Launch) (G : Gx) (y : MethodName) (cc : ByteArray) (nL fr lo mc ms h o n : Nat) (F F2 : Nat → va_E) : Prop :=
  Met l y (.code y cc nL none :: gtbl) (rmI fr lo mc ms) (PcI G h o n F) (QcI G h (n + mc) F2) mc ms (Ax G)
theorem PcI_blind (G : Gx) (h o n : Nat) (F : Nat → va_E) : FrameBlind (PcI G h o n F) := by
  intro a U g mk hh
  obtain ⟨h0, h1, h2, h3, h4, h5⟩ := hh
  exact ⟨h0, h1, h2, KK.same (u := U) (U := U.calling g mk a) rfl h3, Ex.same (u := U) (U := U.calling g mk a) rfl h4, AO2.moved (u := U) (U := U.calling g mk a) (Vm.Alike.refl _) h5⟩
abbrev QI (κ : Kx) (h n mc ms : Nat) (F2 : Nat → va_E) : State → Prop := MQ κ.b (QcI κ.G h (n + mc) F2) κ.a κ.s mc ms (Ax κ.G)
theorem ConI.ofU {l : Launch} {G : Gx} {y : MethodName} {cc : ByteArray} {nL fr lo mc ms h o n : Nat} {F F2 : Nat → va_E} (own : String) (hy : plainName y.cls = true) (ho : y.cls = own) (hi : y.name = "<init>") (hlen : 1 ≤ nL) (hB : Bx G h)
    (k : ∀ κ : Kx, κ.l = l → κ.G = G → κ.h.name = "<init>" → U κ cc own nL none (rmI fr lo mc ms) (QI κ h n mc ms F2) h n 0 0 F 0 (some (.ref (h + o)) :: List.replicate (nL - 1) none) []) : ConI l G y cc nL fr lo mc ms h o n F F2 := by
  refine Met.ofW (cc := cc) (maxL := nL) (ret := none) hy rfl ?_
  intro p e s m args below meth c s₁ B hml hv
  obtain ⟨rfl, hs, hP, hK, hE, hA⟩ := hv
  have hts := atoms_spec (ws := .code y cc nL none :: gtbl) B.pre
  have hown : s.vm.findClass y.cls = some m.cls := findClass_of_methodNamed B.named
  rw [lg_entry_eq]
  refine k (p, l, e, s, m, [Value.ref (h + o)].toArray, below, meth, c, G, 0, 0) rfl rfl (by rw [← hi]; exact (name_of_methodNamed B.named B.method).1) ⟨B.exec, B.bytes, hml, by rw [← ho]; exact hown, fun w hw => hts w (List.mem_cons_of_mem _ hw), hK, hE, B.notSynchronized, B.returns⟩ hB hA hs s.heap [] _ hP va_S.rf ?_
  have hf : ∀ k i : Nat, lfl i (List.replicate k (none : Option Value)) = [] := by
    intro k
    induction k with
    | zero => intro i; rfl
    | succ k ih => intro i; exact ih (i + 1)
  show lv_has _ nL ((0, Value.ref (h + o)) :: lfl 1 (List.replicate (nL - 1) none))
  rw [hf]
  exact lv_entry [Value.ref (h + o)] (n := nL) hlen
section UROWS
variable {κ : Kx} {cc : ByteArray} {own : String} {nL : Nat} {ret : Option FieldType} {R : Room} {Q : State → Prop} {h n0 ck sk : Nat} {F : Nat → va_E} {pc : Nat} {f : List (Option Value)} {st : List Value}
theorem u_aload_n {i : Fin 4} {x : Nat} (hd : decode cc pc = .ok (.aload_n i, 1)) (hi : f[(i : Nat)]? = some (some (.ref x))) (k : U κ cc own nL ret R Q h n0 ck sk F (pc + 1) f (.ref x :: st)) : U κ cc own nL ret R Q h n0 ck sk F pc f st := fun cx hB hA hs0 H locs ls hP hS hl => lv_aload_n cx.1 cx.2.1 hd rfl (lfl_at hl hi) (k cx hB hA hs0 H locs ls hP hS hl)
theorem u_iload_n {i : Fin 4} {x : Int32} (hd : decode cc pc = .ok (.iload_n i, 1)) (hi : f[(i : Nat)]? = some (some (.int x))) (k : U κ cc own nL ret R Q h n0 ck sk F (pc + 1) f (.int x :: st)) : U κ cc own nL ret R Q h n0 ck sk F pc f st := fun cx hB hA hs0 H locs ls hP hS hl => lv_iload_n cx.1 cx.2.1 hd rfl (lfl_at hl hi) (k cx hB hA hs0 H locs ls hP hS hl)
theorem u_ist_n {i : Fin 4} {x : Int32} (f' : List (Option Value)) (hd : decode cc pc = .ok (.istore_n i, 1)) (hn : (i : Nat) < nL) (ho : okS f (i : Nat) = true) (hf : f.set (i : Nat) (some (.int x)) = f') (k : U κ cc own nL ret R Q h n0 ck sk F (pc + 1) f' st) : U κ cc own nL ret R Q h n0 ck sk F pc f (.int x :: st) := by
  subst hf
  exact fun cx hB hA hs0 H locs ls hP hS hl => lv_istore_n cx.1 cx.2.1 hd rfl hl hn rfl (fun ls hl => k cx hB hA hs0 H locs ls hP hS (lfl_set1 ho hl))
theorem u_ast_n {i : Fin 4} {x : Nat} (f' : List (Option Value)) (hd : decode cc pc = .ok (.astore_n i, 1)) (hn : (i : Nat) < nL) (ho : okS f (i : Nat) = true) (hf : f.set (i : Nat) (some (.ref x)) = f') (k : U κ cc own nL ret R Q h n0 ck sk F (pc + 1) f' st) : U κ cc own nL ret R Q h n0 ck sk F pc f (.ref x :: st) := by
  subst hf
  exact fun cx hB hA hs0 H locs ls hP hS hl => lv_astore_n cx.1 cx.2.1 hd rfl hl hn rfl (fun ls hl => k cx hB hA hs0 H locs ls hP hS (lfl_set1 ho hl))
theorem u_inc {i : Nat} {n : Int} {x v : Int32} (f' : List (Option Value)) (hd : decode cc pc = .ok (.iinc i n, 3)) (hi : f[i]? = some (some (.int x))) (hv : x + Int32.ofInt n = v) (hn : i < nL) (ho : okS f i = true) (hf : f.set i (some (.int v)) = f') (k : U κ cc own nL ret R Q h n0 ck sk F (pc + 3) f' st) : U κ cc own nL ret R Q h n0 ck sk F pc f st := by
  subst hf
  intro cx hB hA hs0 H locs ls hP hS hl
  obtain ⟨q, hq⟩ := List.getElem?_of_mem (lfl_mem.mpr ⟨Nat.zero_le i, hi⟩ : (i, Value.int x) ∈ lfl 0 f)
  exact lv_iinc cx.1 cx.2.1 hd hl hq hv hn rfl (fun ls hl => k cx hB hA hs0 H locs ls hP hS (lfl_set1 ho hl))
theorem u_iconst {n : Int} {v : Int32} (hd : decode cc pc = .ok (.iconst n, 1)) (hv : Int32.ofInt n = v) (k : U κ cc own nL ret R Q h n0 ck sk F (pc + 1) f (.int v :: st)) : U κ cc own nL ret R Q h n0 ck sk F pc f st := fun cx hB hA hs0 H locs ls hP hS hl => lv_iconst cx.1 cx.2.1 hd hv (k cx hB hA hs0 H locs ls hP hS hl)
theorem u_bipush {n : Int} {v : Int32} (hd : decode cc pc = .ok (.bipush n, 2)) (hv : (Int8.ofInt n).toInt32 = v) (k : U κ cc own nL ret R Q h n0 ck sk F (pc + 2) f (.int v :: st)) : U κ cc own nL ret R Q h n0 ck sk F pc f st := fun cx hB hA hs0 H locs ls hP hS hl => lv_bipush cx.1 cx.2.1 hd hv (k cx hB hA hs0 H locs ls hP hS hl)
theorem u_sipush {n : Int} {v : Int32} (hd : decode cc pc = .ok (.sipush n, 3)) (hv : (Int16.ofInt n).toInt32 = v) (k : U κ cc own nL ret R Q h n0 ck sk F (pc + 3) f (.int v :: st)) : U κ cc own nL ret R Q h n0 ck sk F pc f st := fun cx hB hA hs0 H locs ls hP hS hl => lv_sipush cx.1 cx.2.1 hd hv (k cx hB hA hs0 H locs ls hP hS hl)
theorem u_dup {v : Value} (hd : decode cc pc = .ok (.dup, 1)) (hv : v.category = 1) (k : U κ cc own nL ret R Q h n0 ck sk F (pc + 1) f (v :: v :: st)) : U κ cc own nL ret R Q h n0 ck sk F pc f (v :: st) := fun cx hB hA hs0 H locs ls hP hS hl => lv_dup cx.1 cx.2.1 hd hv (k cx hB hA hs0 H locs ls hP hS hl)
theorem u_vret {mc ms : Nat} (hd : decode cc pc = .ok (.return_, 1)) (hr : ret = none) : U κ cc own nL ret R (QI κ h n0 ck sk F) h n0 ck sk F pc f [] := fun cx hB hA hs0 H locs ls hP hS hl =>
  W.vret (Qc := QcI κ.G h (n0 + ck) F) cx.1 cx.2.1 (by rw [← hr]; exact cx.2.2.2.2.2.2.2.2) (fun t ht _ => ⟨⟨rfl, by rw [ht]; exact hP⟩, hS.F ht⟩) hS.2.2 hd (hlocks := cx.2.2.2.2.2.2.2.1)
theorem u_obj {i x : Nat} (hd : decode cc pc = .ok (.invokespecial i, 3)) (h1 : Cond.methodLink own i Lib.objectInit ∈ gtbl) (h2 : Cond.instanceMethod Lib.objectInit ∈ gtbl) (h3 : Cond.code Lib.objectInit ⟨#[0xb1]⟩ 1 none ∈ gtbl) (hfr : 1 ≤ R.frames) (hlo : (st.map fun v => v.category).sum + 12 ≤ R.locals) (k : U κ cc own nL ret R Q h n0 ck sk F (pc + 3) f st) : U κ cc own nL ret R Q h n0 ck sk F pc f (.ref x :: st) := fun cx hB hA hs0 H locs ls hP hS hl =>
  W.objInit cx.1 cx.2.1 cx.2.2.2.1 (cx.2.2.2.2.1 _ h1) (cx.2.2.2.2.1 _ h2) (cx.2.2.2.2.1 _ h3) rfl (by rw [cx.2.2.1]; exact hl.1) rfl hd hfr (by show 2 * 0 + (st.map fun v => v.category).sum + 12 ≤ R.locals; omega) (k cx hB hA hs0 H locs ls hP hS hl)
theorem Wn_grow {D : va_G} {cl : List vw_C} {n : Nat} {H H1 : Heap} {e : va_E} (hP : va_P D cl (Wn h n F) H) (hz : H.size = h + n) (o1 : ∀ q, q < h + n → H1[q]? = H[q]?) (he : va_at D cl (h + n, e) H1) : va_P D cl (Wn h (n + 1) (updE F n e)) H1 := by
  rw [← Wn_push]
  refine (hP.kept (fun k x hx => o1 x.1 (by have := (hP k x hx).lt; omega))).app (fun k x hx => ?_)
  have hk : k < 1 := (List.getElem?_eq_some_iff.mp hx).1
  rw [show k = 0 by omega] at hx
  cases hx
  exact he
theorem va_S_grow {A : Nat → Prop} {H0 H H1 : Heap} {locs : List Loc} {z : Nat} (hS : va_S A H0 H locs) (hz : H.size = z) (z1 : z ≤ H1.size) (o1 : ∀ q, q < z → H1[q]? = H[q]?) : va_S A H0 H1 locs :=
  ⟨Nat.le_trans hS.1 (by omega), fun x h1 h2 => (o1 x (by have := hS.1; omega)).trans (hS.2.1 x h1 h2), hS.2.2⟩
theorem u_newi {N : Nat} (hd : decode cc pc = .ok (.newarray .int, 2)) (hN : N ≤ 1000) (hc : ck + 1 ≤ R.cells) (hs : sk + N ≤ R.slots) (k : U κ cc own nL ret R Q h n0 (ck + 1) (sk + N) (updE F (n0 + ck) (.inl (κ.G.2.1, N, .inl (fun _ => 0)))) (pc + 2) f (.ref (h + (n0 + ck)) :: st)) : U κ cc own nL ret R Q h n0 ck sk F pc f (.int (nI N) :: st) := by
  intro cx hB hA hs0 H locs ls hP hS hl
  refine W_size (z := h + (n0 + ck)) (Wn_lt hP (by rw [← hs0]; exact hS.1) rfl) (by omega) (fun hz => ?_)
  refine va_newaK (atype := .int) cx.1 cx.2.1 (cx.2.2.2.2.1 _ (in_g (List.mem_of_getElem? (i := 118) (by decide +kernel)) (by decide +kernel))) rfl hd rfl (nI_pos (by omega)) (nI_clamp (by omega)) (by show N * 4 ≤ _; omega) hc hs hz (fun H1 cA e1 z1 o1 hAr hNm => ?_)
  have hcA : cA = κ.G.2.1 := Option.some.inj (hNm.symm.trans (cx.2.2.2.2.2.1.2.1.2 0 _ rfl).2)
  subst hcA
  exact k cx hB hA hs0 H1 locs ls (Wn_grow hP hz o1 e1) (va_S_grow hS hz (by omega) o1) hl
theorem u_newz {N : Nat} (hd : decode cc pc = .ok (.newarray .boolean, 2)) (hN : N ≤ 1000) (hc : ck + 1 ≤ R.cells) (hs : sk + N ≤ R.slots) (k : U κ cc own nL ret R Q h n0 (ck + 1) (sk + N) (updE F (n0 + ck) (.inl (κ.G.2.2.1, N, .inl (fun _ => 0)))) (pc + 2) f (.ref (h + (n0 + ck)) :: st)) : U κ cc own nL ret R Q h n0 ck sk F pc f (.int (nI N) :: st) := by
  intro cx hB hA hs0 H locs ls hP hS hl
  refine W_size (z := h + (n0 + ck)) (Wn_lt hP (by rw [← hs0]; exact hS.1) rfl) (by omega) (fun hz => ?_)
  refine va_newaK (atype := .boolean) cx.1 cx.2.1 (cx.2.2.2.2.1 _ (in_g (List.mem_of_getElem? (i := 917) (by decide +kernel)) (by decide +kernel))) rfl hd rfl (nI_pos (by omega)) (nI_clamp (by omega)) (by show N * 1 ≤ _; omega) hc hs hz (fun H1 cA e1 z1 o1 hAr hNm => ?_)
  have hcA : cA = κ.G.2.2.1 := Option.some.inj (hNm.symm.trans (cx.2.2.2.2.2.1.2.1.2 1 _ rfl).2)
  subst hcA
  exact k cx hB hA hs0 H1 locs ls (Wn_grow hP hz o1 e1) (va_S_grow hS hz (by omega) o1) hl
theorem u_new {C : String} {T : u_T} {N i ci : Nat} {fs : List Value} (hin : ∀ w ∈ u_ws C T N, w ∈ gtbl) (ty : Nat → FieldType) (hty : ∀ k, k < N → parseFieldDescriptor (T k).2.2.1 = some (ty k)) (hcl : Cond.classLink own i C ∈ gtbl) (hinst : Cond.instantiable C N ∈ gtbl) (hini : Cond.initialized C ∈ gtbl) (hc : vwCl[ci]? = some (C, T, N)) (hfs : ∀ j, j < N → defaultValue (ty j) = vp_V fs j) (hcc : ck + 1 ≤ R.cells) (hss : sk + N ≤ R.slots) (hd : decode cc pc = .ok (.new i, 3))
    (k : U κ cc own nL ret R Q h n0 (ck + 1) (sk + N) (updE F (n0 + ck) (.inr (ci, fs))) (pc + 3) f (.ref (h + (n0 + ck)) :: st)) : U κ cc own nL ret R Q h n0 ck sk F pc f st := by
  intro cx hB hA hs0 H locs ls hP hS hl
  refine W_size (z := h + (n0 + ck)) (Wn_lt hP (by rw [← hs0]; exact hS.1) rfl) (by omega) (fun hz => ?_)
  have hKn := cx.2.2.2.2.2.1.2.1.1 ci _ hc
  refine W.newcK cx.1 cx.2.1 cx.2.2.2.1 (cx.2.2.2.2.1 _ hcl) (cx.2.2.2.2.1 _ hinst) (cx.2.2.2.2.1 _ hini) rfl hd hcc hss hKn.2.1 hz (fun H1 kC hkC e1 z1 o1 => ?_)
  exact k cx hB hA hs0 H1 locs ls (Wn_grow hP hz o1 ⟨_, hc, (u_born ty cx.2.2.2.2.1 hin hKn hkC e1 hty).to hfs⟩) (va_S_grow hS hz (by omega) o1) hl
theorem u_anew {i N : Nat} (hd : decode cc pc = .ok (.anewarray i, 3)) (hcl : Cond.classLink own i "ChairRanks$Row" ∈ gtbl) (hN : N ≤ 1000) (hc : ck + 1 ≤ R.cells) (hs : sk + N ≤ R.slots) (k : U κ cc own nL ret R Q h n0 (ck + 1) (sk + N) (updE F (n0 + ck) (.inl (κ.G.2.2.2.1, N, .inr (.inr (.inr (.inr (fun _ => none))))))) (pc + 3) f (.ref (h + (n0 + ck)) :: st)) : U κ cc own nL ret R Q h n0 ck sk F pc f (.int (nI N) :: st) := by
  intro cx hB hA hs0 H locs ls hP hS hl
  have en : (nI N).toNatClampNeg = N := nI_clamp (by omega)
  refine W_size (z := h + (n0 + ck)) (Wn_lt hP (by rw [← hs0]; exact hS.1) rfl) (by omega) (fun hz => ?_)
  refine W.anew cx.1 cx.2.1 cx.2.2.2.1 (cx.2.2.2.2.1 _ hcl) (va_AO.use hA.1) rfl hd rfl (nI_pos (by omega)) (by rw [en]; omega) hc (by rw [en]; exact hs) (fun cA kA comp f1 f2 f3 f4 => ?_)
  have hcA : cA = κ.G.2.2.2.1 := by
    obtain ⟨kA2, comp2, -, -, -, g4⟩ := (cx.2.2.2.2.2.1.2.1.2 2 _ rfl).2
    exact Option.some.inj (f1.symm.trans g4)
  subst hcA
  rw [en, hz]
  have o1 : ∀ q, q < h + (n0 + ck) → (H.push ({ cls := κ.G.2.2.2.1, slots := Array.replicate N .null, vm := .none } : Cell))[q]? = H[q]? := fun q hq => by rw [Array.getElem?_push, if_neg (by omega)]
  refine k cx hB hA hs0 _ locs ls (Wn_grow hP hz o1 ?_) (va_S_grow hS hz (by rw [Array.size_push]; omega) o1) hl
  show (H.push _)[h + (n0 + ck)]? = some (vp_cell _ _)
  rw [← hz, Array.getElem?_push_size, arrV_new]
  rfl
end UROWS
theorem arrV_cong (cI : ClassId) {N : Nat} {f g : Nat → Value} (e : ∀ j, j < N → f j = g j) : arrV cI N f = arrV cI N g := by
  unfold arrV
  have : (fun j : Fin N => f j.val) = fun j : Fin N => g j.val := funext fun j => e j.val j.isLt
  rw [this]
theorem v_outer (c : ClassId) (N h0 : Nat) : ∀ i : Nat, Jvm.Free.Multi.outerC c N h0 i = arrV c N (fun j => va_rf (if j < i then some (h0 + 1 + j) else none))
  | 0 => by
    show ({ cls := c, slots := Array.replicate N .null, vm := .none } : Cell) = _
    rw [arrV_new]
    exact arrV_cong c (fun j _ => by rw [if_neg (Nat.not_lt_zero j)]; rfl)
  | i + 1 => by
    show (Jvm.Free.Multi.outerC c N h0 i).setSlot i (.ref (h0 + 1 + i)) = _
    rw [v_outer c N h0 i, arrV_store]
    refine arrV_cong c (fun j _ => ?_)
    unfold updV
    by_cases e : j = i
    · subst e
      rw [if_pos rfl, if_pos (Nat.lt_succ_self j)]
      rfl
    · rw [if_neg e]
      dsimp only
      by_cases z : j < i
      · rw [if_pos z, if_pos (Nat.lt_succ_of_lt z)]
      · rw [if_neg z, if_neg (by omega)]
/-- an array of N arrays of K ints at place m, its rows behind it -/
def mnE (G : Gx) (h : Nat) (F : Nat → va_E) (m N K : Nat) : Nat → va_E := fun j => if j = m then .inl (G.2.2.2.2.1, N, .inr (.inr (.inr (.inr (fun i => if i < N then some (h + (m + 1 + i)) else none))))) else if m < j ∧ j ≤ m + N then .inl (G.2.1, K, .inl (fun _ => 0)) else F j
section UROWS2
variable {κ : Kx} {cc : ByteArray} {own : String} {nL : Nat} {ret : Option FieldType} {R : Room} {Q : State → Prop} {h n0 ck sk : Nat} {F : Nat → va_E} {pc : Nat} {f : List (Option Value)} {st : List Value}
theorem u_mna {i N K : Nat} (hd : decode cc pc = .ok (.multianewarray i 2, 4)) (hcl : Cond.classLink own i "[[I" ∈ gtbl) (hN : N ≤ 1000) (hK : K ≤ 1000) (hc : ck + (1 + N) ≤ R.cells) (hs : sk + (N + N * K) ≤ R.slots) (k : U κ cc own nL ret R Q h n0 (ck + 1 + N) (sk + N + N * K) (mnE κ.G h F (n0 + ck) N K) (pc + 4) f (.ref (h + (n0 + ck)) :: st)) : U κ cc own nL ret R Q h n0 ck sk F pc f (.int (nI K) :: .int (nI N) :: st) := by
  intro cx hB hA hs0 H locs ls hP hS hl
  have en : (nI N).toNatClampNeg = N := nI_clamp (by omega)
  have ek : (nI K).toNatClampNeg = K := nI_clamp (by omega)
  refine W_size (z := h + (n0 + ck)) (Wn_lt hP (by rw [← hs0]; exact hS.1) rfl) (by omega) (fun hz => ?_)
  intro T hT Xs
  obtain ⟨vm₁, cA, comp, -, fA, fC, hO, -, X', step⟩ := Xs.multianewarray2F cx.1 (ty := .int) cx.2.2.2.1 (cx.2.2.2.2.1 _ (show Cond.classLink own i ("[" ++ (FieldType.array .int).toString) ∈ gtbl from hcl)) hA.2 (cx.2.2.2.2.1 _ (in_g (List.mem_of_getElem? (i := 118) (by decide +kernel)) (by decide +kernel))) (g := F0 κ.m pc ls (.int (nI K) :: .int (nI N) :: st)) rfl (by rw [cx.2.1]; exact hd) rfl (nI_pos (by omega)) (nI_pos (by omega)) (by rw [en]; omega) (by rw [ek]; show K * 4 ≤ _; omega) (by rw [ek]; omega) rfl rfl (by rw [en]; exact hc) (by rw [en, ek]; exact hs)
  have hcA : cA = κ.G.2.2.2.2.1 := Option.some.inj (fA.symm.trans (cx.2.2.2.2.2.1.2.1.2 3 _ rfl).2)
  have hcI : comp = κ.G.2.1 := Option.some.inj (fC.symm.trans (cx.2.2.2.2.2.1.2.1.2 0 _ rfl).2)
  subst hcA
  subst hcI
  rw [en, ek] at X' step
  generalize hF : Jvm.Free.Multi.fill (T.setVm vm₁) κ.G.2.2.2.2.1 κ.G.2.1 N K (defaultValue .int) N = T1 at X' step
  have hTh : (T.setVm vm₁).heap = H := hT
  obtain ⟨f1, f2, -, -⟩ := Jvm.Free.Multi.fill_facts (T.setVm vm₁) κ.G.2.2.2.2.1 κ.G.2.1 N K (defaultValue .int) N
  rw [hF, hTh, hz] at f1 f2
  have hold : ∀ q, q < h + (n0 + ck) → T1.heap[q]? = H[q]? := fun q hq => by
    have := Jvm.Free.Multi.fill_old (T.setVm vm₁) κ.G.2.2.2.2.1 κ.G.2.1 N K (defaultValue .int) (a := q) (by rw [hTh, hz]; exact hq) N
    rw [hF, hTh] at this
    exact this
  have hrow : ∀ j, j < N → T1.heap[h + (n0 + ck) + 1 + j]? = some (Jvm.Free.Multi.innerC κ.G.2.1 K (defaultValue .int)) := fun j hj => by
    have := Jvm.Free.Multi.fill_inner (T.setVm vm₁) κ.G.2.2.2.2.1 κ.G.2.1 N K (defaultValue .int) N j hj
    rw [hF, hTh, hz] at this
    exact this
  have hP1 : va_P κ.G.1 vwCl (Wn h (n0 + (ck + 1 + N)) (mnE κ.G h F (n0 + ck) N K)) T1.heap := by
    intro j q hq
    obtain ⟨hj, rfl⟩ := Wn_mem hq
    by_cases z1 : j < n0 + ck
    · have e : mnE κ.G h F (n0 + ck) N K j = F j := by unfold mnE; rw [if_neg (by omega), if_neg (by omega)]
      rw [e]
      exact (hP j _ (Wn_at F z1)).kept (hold (h + j) (by omega))
    · by_cases z2 : j = n0 + ck
      · have e : mnE κ.G h F (n0 + ck) N K j = .inl (κ.G.2.2.2.2.1, N, .inr (.inr (.inr (.inr (fun i => if i < N then some (h + (n0 + ck + 1 + i)) else none))))) := by unfold mnE; rw [if_pos z2]
        rw [e, z2]
        show T1.heap[h + (n0 + ck)]? = some (arrV κ.G.2.2.2.2.1 N (fun j => va_rf (if j < N then some (h + (n0 + ck + 1 + j)) else none)))
        rw [f2, v_outer]
        congr 1
        exact arrV_cong _ (fun i hi => by rw [if_pos hi, if_pos hi, show h + (n0 + ck) + 1 + i = h + (n0 + ck + 1 + i) by omega])
      · have e : mnE κ.G h F (n0 + ck) N K j = .inl (κ.G.2.1, K, .inl (fun _ => 0)) := by unfold mnE; rw [if_neg z2, if_pos (by omega)]
        rw [e]
        show T1.heap[h + j]? = some (vp_cell _ _)
        have := hrow (j - (n0 + ck) - 1) (by omega)
        rw [show h + (n0 + ck) + 1 + (j - (n0 + ck) - 1) = h + j by omega] at this
        rw [this]
        show some ({ cls := _, slots := Array.replicate K _, vm := .none } : Cell) = _
        rw [arrV_new]
        rfl
  obtain ⟨t, a1, b1⟩ := k cx hB hA hs0 T1.heap locs ls hP1 (va_S_grow hS hz (by omega) hold) hl T1 rfl X'
  refine ⟨t, step t ?_, b1⟩
  have hTs : T.heap.size = h + (n0 + ck) := by rw [hT]; exact hz
  rw [hTs]
  exact a1
theorem u_get {C : String} {T : u_T} {N i ci o j : Nat} {fs : List Value} {v : Value} (hin : ∀ w ∈ u_ws C T N, w ∈ gtbl) (hc : vwCl[ci]? = some (C, T, N)) (hj : j < N) (hw : Cond.fieldLink own i (T j).1 (T j).2.1 (T j).2.2.1 ∈ gtbl) (ho : o < n0 + ck) (hF : F o = .inr (ci, fs)) (hv : fs[j]? = some v) (hd : decode cc pc = .ok (.getfield i, 3)) (k : U κ cc own nL ret R Q h n0 ck sk F (pc + 3) f (v :: st)) : U κ cc own nL ret R Q h n0 ck sk F pc f (.ref (h + o) :: st) := fun cx hB hA hs0 H locs ls hP hS hl =>
  va_get (D := κ.G.1) (ci := ci) cx.1 cx.2.1 cx.2.2.2.2.1 hin cx.2.2.2.1 cx.2.2.2.2.2.1.2.1 hP o (by rw [Wn_at F ho, hF]) hc j hj (cx.2.2.2.2.1 _ hw) (fun _ h => h) hv hd (k cx hB hA hs0 H locs ls hP hS hl)
theorem u_putF {C : String} {T : u_T} {N i ci o j : Nat} {fs : List Value} {v : Value} {ty : FieldType} (hin : ∀ w ∈ u_ws C T N, w ∈ gtbl) (ty0 : Nat → FieldType) (hty : ∀ k, k < N → parseFieldDescriptor (T k).2.2.1 = some (ty0 k)) (hnm : ∀ a, a < N → ∀ b, b < N → a ≠ b → (T a).2.1 ≠ (T b).2.1) (hc : vwCl[ci]? = some (C, T, N)) (hj : j < N) (hw : Cond.fieldLink own i (T j).1 (T j).2.1 (T j).2.2.1 ∈ gtbl) (hfin : (T j).2.2.2 = true) (hinit : κ.h.name = "<init>") (hdecl : (T j).1 = own) (hpd : parseFieldDescriptor (T j).2.2.1 = some ty) (hn : narrow ty v = v) (hfit : fits ty v = true) (hl0 : j < fs.length) (ho : o < n0 + ck) (h87 : n0 + ck ≤ 87) (hF : F o = .inr (ci, fs)) (hd : decode cc pc = .ok (.putfield i, 3)) (k : U κ cc own nL ret R Q h n0 ck sk (updE F o (.inr (ci, fs.set j v))) (pc + 3) f st) : U κ cc own nL ret R Q h n0 ck sk F pc f (v :: .ref (h + o) :: st) := fun cx hB hA hs0 H locs ls hP hS hl =>
  va_putF (D := κ.G.1) (ci := ci) cx.1 cx.2.1 cx.2.2.2.2.1 hin ty0 hty hnm cx.2.2.2.1 cx.2.2.2.2.2.1.2.1 hP (Wn_D (fun i hi => hB i (by omega))) hS o (by rw [Wn_at F ho, hF]) hc j hj (cx.2.2.2.2.1 _ hw) (fun _ h => h) hfin hinit hdecl hpd hn hfit hl0 hd (fun H1 locs1 hP1 _ hS1 => k cx hB hA hs0 H1 locs1 ls (by rw [Wn_set ho] at hP1; exact hP1) hS1 hl)
theorem u_put {C : String} {T : u_T} {N i ci o j : Nat} {fs : List Value} {v : Value} {ty : FieldType} (hin : ∀ w ∈ u_ws C T N, w ∈ gtbl) (ty0 : Nat → FieldType) (hty : ∀ k, k < N → parseFieldDescriptor (T k).2.2.1 = some (ty0 k)) (hnm : ∀ a, a < N → ∀ b, b < N → a ≠ b → (T a).2.1 ≠ (T b).2.1) (hc : vwCl[ci]? = some (C, T, N)) (hj : j < N) (hw : Cond.fieldLink own i (T j).1 (T j).2.1 (T j).2.2.1 ∈ gtbl) (hfin : (T j).2.2.2 = false) (hpd : parseFieldDescriptor (T j).2.2.1 = some ty) (hn : narrow ty v = v) (hfit : fits ty v = true) (hl0 : j < fs.length) (ho : o < n0 + ck) (h87 : n0 + ck ≤ 87) (hF : F o = .inr (ci, fs)) (hd : decode cc pc = .ok (.putfield i, 3)) (k : U κ cc own nL ret R Q h n0 ck sk (updE F o (.inr (ci, fs.set j v))) (pc + 3) f st) : U κ cc own nL ret R Q h n0 ck sk F pc f (v :: .ref (h + o) :: st) := fun cx hB hA hs0 H locs ls hP hS hl =>
  va_put (D := κ.G.1) (ci := ci) cx.1 cx.2.1 cx.2.2.2.2.1 hin ty0 hty hnm cx.2.2.2.1 cx.2.2.2.2.2.1.2.1 hP (Wn_D (fun i hi => hB i (by omega))) hS o (by rw [Wn_at F ho, hF]) hc j hj (cx.2.2.2.2.1 _ hw) (fun _ h => h) hfin hpd hn hfit hl0 hd (fun H1 locs1 hP1 _ hS1 => k cx hB hA hs0 H1 locs1 ls (by rw [Wn_set ho] at hP1; exact hP1) hS1 hl)
theorem u_iast {o N n : Nat} {g : Nat → Int32} {x : Int32} (hd : decode cc pc = .ok (.iastore, 1)) (ho : o < n0 + ck) (h87 : n0 + ck ≤ 87) (hF : F o = .inl (κ.G.2.1, N, .inl g)) (hn : n < N) (hN : N ≤ 1000) (k : U κ cc own nL ret R Q h n0 ck sk (updE F o (.inl (κ.G.2.1, N, .inl (upd g n x)))) (pc + 1) f st) : U κ cc own nL ret R Q h n0 ck sk F pc f (.int x :: .int (nI n) :: .ref (h + o) :: st) := fun cx hB hA hs0 H locs ls hP hS hl =>
  va_iast cx.1 cx.2.1 cx.2.2.2.2.2.1.2.1 hP (Wn_D (fun i hi => hB i (by omega))) hS o 0 (by rw [Wn_at F ho, hF]) rfl (vp_in_nI hn (by omega)) hd (fun H1 locs1 hP1 _ hS1 => k cx hB hA hs0 H1 locs1 ls (by rw [Wn_set ho, nI_clamp (by omega)] at hP1; exact hP1) hS1 hl)
theorem u_astq {o v N n : Nat} {fs : List Value} {g : Nat → Option Nat} (hd : decode cc pc = .ok (.aastore, 1)) (ho : o < n0 + ck) (hv : v < n0 + ck) (h87 : n0 + ck ≤ 87) (hF : F o = .inl (κ.G.2.2.2.1, N, .inr (.inr (.inr (.inr g))))) (hG : F v = .inr (3, fs)) (hn : n < N) (hN : N ≤ 1000) (k : U κ cc own nL ret R Q h n0 ck sk (updE F o (.inl (κ.G.2.2.2.1, N, .inr (.inr (.inr (.inr (va_up g n (some (h + v))))))))) (pc + 1) f st) : U κ cc own nL ret R Q h n0 ck sk F pc f (.ref (h + v) :: .int (nI n) :: .ref (h + o) :: st) := fun cx hB hA hs0 H locs ls hP hS hl =>
  va_astq (r := (RX3, TX3, 3)) cx.1 cx.2.1 cx.2.2.2.2.2.1.2.1 hP (Wn_D (fun i hi => hB i (by omega))) hS o 2 v 3 (by rw [Wn_at F ho, hF]) rfl (by rw [Wn_at F hv, hG]) rfl (vp_in_nI hn (by omega)) hd (fun H1 locs1 hP1 _ hS1 => k cx hB hA hs0 H1 locs1 ls (by rw [Wn_set ho, nI_clamp (by omega)] at hP1; exact hP1) hS1 hl)
theorem u_ge_t {x y : Int32} {off : Int} {tgt : Nat} (hd : decode cc pc = .ok (.if_icmp .ge off, 3)) (ht : (pc : Int) + off = (tgt : Int)) (hh : y ≤ x) (k : U κ cc own nL ret R Q h n0 ck sk F tgt f st) : U κ cc own nL ret R Q h n0 ck sk F pc f (.int y :: .int x :: st) := fun cx hB hA hs0 H locs ls hP hS hl => lv_icmp_ge cx.1 cx.2.1 hd ht (fun _ => k cx hB hA hs0 H locs ls hP hS hl) (fun z => absurd hh z)
theorem u_ge_f {x y : Int32} {off : Int} {tgt : Nat} (hd : decode cc pc = .ok (.if_icmp .ge off, 3)) (ht : (pc : Int) + off = (tgt : Int)) (hh : ¬ y ≤ x) (k : U κ cc own nL ret R Q h n0 ck sk F (pc + 3) f st) : U κ cc own nL ret R Q h n0 ck sk F pc f (.int y :: .int x :: st) := fun cx hB hA hs0 H locs ls hP hS hl => lv_icmp_ge cx.1 cx.2.1 hd ht (fun z => absurd z hh) (fun _ => k cx hB hA hs0 H locs ls hP hS hl)
theorem u_goto {off : Int} {tgt : Nat} (hd : decode cc pc = .ok (.goto off, 3)) (ht : (pc : Int) + off = (tgt : Int)) (k : U κ cc own nL ret R Q h n0 ck sk F tgt f st) : U κ cc own nL ret R Q h n0 ck sk F pc f st := fun cx hB hA hs0 H locs ls hP hS hl => lv_goto cx.1 cx.2.1 hd ht (k cx hB hA hs0 H locs ls hP hS hl)
theorem va_callI2 {p : Program} {l : Launch} {e : Env} {R : Room} {s : State} {m : MethodId} {args : Array Value} {below : List Frame} {meth : Method} {c : Code} {H : Heap} {locs : List Loc} {cells slots mc ms : Nat} {Q : State → Prop} {pc : Nat} {ls : Array Slot} {rest st0 : List Value} {a : Array Value} {G : Gx} {h n : Nat} {F2 : Nat → va_E} (hr : va_Run p l e R s m args below meth c H locs cells slots mc ms (F0 m pc ls st0) rest (QcI G h n F2 a) (Ax G)) (hS : va_S (Ax G) s.heap H locs)
    (kk : ∀ (H1 : Heap) (locs1 : List Loc), va_P G.1 vwCl (Wn h n F2) H1 → va_S (Ax G) s.heap H1 locs1 → W p l e R s m args below meth c H1 locs1 (cells + mc) (slots + ms) Q (F0 m (pc + 3) ls rest)) : W p l e R s m args below meth c H locs cells slots Q (F0 m pc ls st0) := by
  intro T hT X
  obtain ⟨v, st₀, t, T', L, h0, X', hL, e1, e2, ⟨⟨hv, hw⟩, hz, hk⟩, st⟩ := hr T hT X
  cases hv
  rw [h0] at hz hk
  obtain ⟨t2, a1, b1⟩ := kk T'.heap (locs ++ L) (by rw [e1]; exact hw)
    ⟨Nat.le_trans hS.1 (by rw [e1]; exact hz), fun q h1 h2 => by rw [e1, hk q (Nat.lt_of_lt_of_le h1 hS.1) h2]; exact hS.2.1 q h1 h2, fun q hq => by
      rcases List.mem_append.mp hq with h | h
      · exact hS.2.2 q h
      · exact hL q h⟩ T' rfl X'
  exact ⟨t2, st t2 a1, b1⟩
theorem preI {cx : Cx κ cc own nL ret} (hA : AO2 κ.s) {H : Heap} {locs : List Loc} {n o : Nat} (hz : H.size = h + n) (hP : va_P κ.G.1 vwCl (Wn h n F) H) (hS : va_S (Ax κ.G) κ.s.heap H locs) : ∀ U : State, U.heap = H → κ.s.WarmedH U.vm → PcI κ.G h o n F [Value.ref (h + o)].toArray U := fun U hU hW =>
  ⟨rfl, by rw [hU]; exact hz, by rw [hU]; exact hP, cx.2.2.2.2.2.1.go hW, by rw [hU]; exact Ex.go hW (fun a h1 h2 => hS.2.1 a h1 h2) cx.2.2.2.2.2.2.1, hA.moved hW.alike⟩
theorem u_call {y : MethodName} {cb : ByteArray} {nc fr lo mc ms i o : Nat} {F2 : Nat → va_E} (hw : Cond.methodLink own i y ∈ gtbl) (h1 : Cond.instanceMethod y ∈ gtbl) (h3 : Cond.initialized y.cls ∈ gtbl) (h4 : Cond.code y cb nc none ∈ gtbl) (hy1 : y.name = "<init>") (hy : y.cls ≠ "java/lang/invoke/MethodHandle" ∧ y.cls ≠ "java/lang/invoke/VarHandle" ∧ (parseMethodDescriptor y.desc).map (fun d => d.parameters.length) = some 0)
    (hC : ConI κ.l κ.G y cb nc fr lo mc ms h o (n0 + ck) F F2) (hR : fr + 1 ≤ R.frames ∧ 8 + (nc + 11) + lo ≤ R.locals) (hst : (st.map fun v => v.category).sum ≤ 8) (hcs : ck + mc ≤ R.cells ∧ sk + ms ≤ R.slots) (hd : decode cc pc = .ok (.invokespecial i, 3)) (k : U κ cc own nL ret R Q h n0 (ck + mc) (sk + ms) F2 (pc + 3) f st) : U κ cc own nL ret R Q h n0 ck sk F pc f (.ref (h + o) :: st) := by
  intro cx hB hA hs0 H locs ls hP hS hl
  refine W_size (z := h + (n0 + ck)) (Wn_lt hP (by rw [← hs0]; exact hS.1) rfl) (by omega) (fun hz => ?_)
  exact va_callI2 (va_runI (As := []) (rest := st) (bytes := cb) (maxL := nc) ⟨cx.1, cx.2.1, cx.2.2.1, cx.2.2.2.1, cx.2.2.2.2.1⟩ hC (cwI 0 cx.2.2.2.2.1 (good_g h4) rfl rfl rfl (cx.2.2.2.2.1 _ h3) (cx.2.2.2.2.1 _ hw) (cx.2.2.2.2.1 _ h1) hy1 hy hR) ⟨PcI_blind _ _ _ _ _, preI (cx := cx) hA hz hP hS⟩ rfl rfl hl.1 rfl (lv_room hst) hd hcs) hS (fun H1 locs1 hP1 hS1 => k cx hB hA hs0 H1 locs1 ls (by rw [← Nat.add_assoc]; exact hP1) hS1 hl)
theorem u_callN {y : MethodName} {cb : ByteArray} {nc fr lo mc ms i o : Nat} {F2 : Nat → va_E} {host : String} (hw : Cond.methodLinkNest own i y host ∈ ntbl) (h1 : Cond.instanceMethod y ∈ gtbl) (h3 : Cond.initialized y.cls ∈ gtbl) (h4 : Cond.code y cb nc none ∈ gtbl) (hy1 : y.name = "<init>") (hy : y.cls ≠ "java/lang/invoke/MethodHandle" ∧ y.cls ≠ "java/lang/invoke/VarHandle" ∧ (parseMethodDescriptor y.desc).map (fun d => d.parameters.length) = some 0)
    (hC : ConI κ.l κ.G y cb nc fr lo mc ms h o (n0 + ck) F F2) (hR : fr + 1 ≤ R.frames ∧ 8 + (nc + 11) + lo ≤ R.locals) (hst : (st.map fun v => v.category).sum ≤ 8) (hcs : ck + mc ≤ R.cells ∧ sk + ms ≤ R.slots) (hd : decode cc pc = .ok (.invokespecial i, 3)) (k : U κ cc own nL ret R Q h n0 (ck + mc) (sk + ms) F2 (pc + 3) f st) : U κ cc own nL ret R Q h n0 ck sk F pc f (.ref (h + o) :: st) := by
  intro cx hB hA hs0 H locs ls hP hS hl
  refine W_size (z := h + (n0 + ck)) (Wn_lt hP (by rw [← hs0]; exact hS.1) rfl) (by omega) (fun hz => ?_)
  exact va_callI2 (va_runIN (As := []) (rest := st) (bytes := cb) (maxL := nc) ⟨cx.1, cx.2.1, cx.2.2.1, cx.2.2.2.1, cx.2.2.2.2.1⟩ hC ⟨va_cnB 0 cx.2.2.2.2.1 (good_g h4) rfl rfl rfl (cx.2.2.2.2.2.1.2.2 _ hw) (cx.2.2.2.2.1 _ h3) hy hR, hy1, cx.2.2.2.2.1 _ h1⟩ ⟨PcI_blind _ _ _ _ _, preI (cx := cx) hA hz hP hS⟩ rfl rfl hl.1 rfl (lv_room hst) hd hcs) hS (fun H1 locs1 hP1 hS1 => k cx hB hA hs0 H1 locs1 ls (by rw [← Nat.add_assoc]; exact hP1) hS1 hl)
end UROWS2
