def nwq : List (String × Nat × MethodName) := [(RX11, 9, yX6_init), (RX0, 11, yX10_init), (RX10, 11, yX3_init), (RX10, 20, yX4_init), (RX10, 27, yX1_init), (RX5, 24, yX1_init), (RX0, 24, yX9_init), (RX11, 32, yX10_init), (RX11, 38, yX2_init), (RX2, 11, yX7_init), (RX2, 36, yX9_init), (RX11, 45, yX8_init), (RX7, 62, yX11_isWithin), (RX2, 69, yX11_isWithin), (RX0, 46, yX11_isWithin), (RX0, 113, yX11_cut)]
/-! ===== BASE: one word list for all methods, contracts of one shape, calls in one row ===== -/
def BW : List Cond := lw_tbl.filter goodWord
theorem bw_at {w : Cond} (i : Nat) (h : lw_tbl[i]? = some w) (g : goodWord w = true) : w ∈ BW := List.mem_filter.mpr ⟨List.mem_of_getElem? h, g⟩
theorem bw_good {w : Cond} (h : w ∈ BW) : (w.onTables && w.keeps) = true ∨ ∃ ty, w = .arrayClass ty := good_of_word (List.mem_filter.mp h).2
theorem bw_tbl {w : Cond} (h : w ∈ BW) : w ∈ lw_tbl := (List.mem_filter.mp h).1
theorem bw_in {ws : List Cond} (is : List Nat) (hs : ws = is.filterMap (fun i => lw_tbl[i]?)) (hg : ws.all goodWord = true) : ∀ w ∈ ws, w ∈ BW := by
  intro w hw
  have hg' := List.all_eq_true.mp hg w hw
  rw [hs] at hw
  obtain ⟨i, -, hi⟩ := List.mem_filterMap.mp hw
  exact bw_at i hi hg'
def bws (y : MethodName) (bytes : ByteArray) (maxL : Nat) (ret : Option FieldType) : List Cond := .code y bytes maxL ret :: BW
theorem bws_good {y : MethodName} {bytes : ByteArray} {maxL : Nat} {ret : Option FieldType} (h : Cond.code y bytes maxL ret ∈ BW) : GoodIn BW (bws y bytes maxL ret) := fun w hw => by
  rcases List.mem_cons.mp hw with rfl | h2
  · exact ⟨h, bw_good h⟩
  · exact ⟨h2, bw_good h2⟩
theorem bw_V {own C : String} {idx : Nat} {y : MethodName} {bytes : ByteArray} {maxL : Nat} {ret : Option FieldType} (h1 : Cond.methodLink own idx y ∈ BW) (h2 : Cond.instanceMethod y ∈ BW) (h3 : Cond.selects C y y ∈ BW) (h4 : Cond.initialized C ∈ BW) (h5 : Cond.code y bytes maxL ret ∈ BW) : GoodIn BW (wsV own idx C y (bws y bytes maxL ret)) := by
  intro w hw
  unfold wsV at hw
  rcases List.mem_append.mp hw with h | h
  · simp only [List.mem_cons, List.not_mem_nil, or_false] at h
    rcases h with rfl | rfl | rfl | rfl
    · exact ⟨h1, bw_good h1⟩
    · exact ⟨h2, bw_good h2⟩
    · exact ⟨h3, bw_good h3⟩
    · exact ⟨h4, bw_good h4⟩
  · exact bws_good h5 w h
theorem bw_S {own : String} {idx : Nat} {y : MethodName} {bytes : ByteArray} {maxL : Nat} {ret : Option FieldType} (h1 : Cond.methodLink own idx y ∈ BW) (h2 : Cond.static y ∈ BW) (h4 : Cond.initialized y.cls ∈ BW) (h5 : Cond.code y bytes maxL ret ∈ BW) : GoodIn BW (va_wsS own idx y (bws y bytes maxL ret)) := by
  intro w hw
  unfold va_wsS at hw
  rcases List.mem_append.mp hw with h | h
  · simp only [List.mem_cons, List.not_mem_nil, or_false] at h
    rcases h with rfl | rfl | rfl
    · exact ⟨h1, bw_good h1⟩
    · exact ⟨h2, bw_good h2⟩
    · exact ⟨h4, bw_good h4⟩
  · exact bws_good h5 w h
/-- the nest mates' links, and the arrays over the system's own classes: they aren't handed on as words -/
def NW (U : State) : Prop := (∀ q ∈ nwq, va_Nw (.methodLinkNest q.1 q.2.1 q.2.2 RX11) U) ∧ va_AO RX1 U ∧ va_AO RX9 U
theorem NW.warm {s U : State} (hW : s.WarmedH U.vm) (h : NW s) : NW U := ⟨fun q hq => va_Nw.warmM hW (h.1 q hq), h.2.1.moved hW.alike, h.2.2.moved hW.alike⟩
theorem NW.same {s U : State} (hW : s.vm = U.vm) (h : NW s) : NW U := ⟨fun q hq => va_Nw.same rfl hW (h.1 q hq), h.2.1.moved (by rw [hW]; exact Vm.Alike.refl _), h.2.2.moved (by rw [hW]; exact Vm.Alike.refl _)⟩
/-- the two String constants, and what String's own code reads of its statics: they lie outside of what may change -/
def lenS : List Nat := [13, 88]
def bytS : List (List Int32) := [[60, 62, 61, 35, 43, 45, 42, 47, 40, 41, 59, 63, 58], [115, 116, 101, 112, 115, 32, 115, 116, 114, 105, 100, 101, 32, 111, 97, 116, 115, 32, 100, 114, 105, 118, 101, 32, 112, 97, 115, 115, 32, 105, 102, 32, 101, 110, 100, 32, 111, 114, 32, 97, 110, 100, 32, 110, 111, 116, 32, 104, 111, 114, 115, 101, 32, 99, 111, 117, 110, 116, 32, 115, 104, 111, 101, 32, 100, 97, 121, 32, 109, 117, 100, 32, 112, 108, 97, 99, 101, 32, 115, 116, 101, 112, 32, 103, 111, 110, 101, 32]]
def SWx (adK adV : Nat → Nat) (A : Nat → Prop) (U : State) (H : Heap) : Prop := vk_S 2 lenS bytS adK adV A U H ∧ vk_R RX7 66 "<>=#+-*/();?:" (adK 0) U ∧ vk_R RX7 73 "steps stride oats drive pass if end or and not horse count shoe day mud place step gone " (adK 1) U ∧ va_Z "java/lang/String" "COMPACT_STRINGS" "Z" (.int 1) A U H ∧ va_Zq "jdk/internal/util/Preconditions" "SIOOBE_FORMATTER" "Ljava/util/function/BiFunction;" A U H
def SWA (A : Nat → Prop) (U : State) (H : Heap) : Prop := ∃ adK adV : Nat → Nat, SWx adK adV A U H
theorem SWx.call {adK adV : Nat → Nat} {A B : Nat → Prop} {s U : State} {H : Heap} {locs : List Loc} (hS : va_S A s.heap H locs) (hF : ∀ q, B q → A q) (hU : U.heap = H) (hW : s.WarmedH U.vm) (h : SWx adK adV A s s.heap) : SWx adK adV B U U.heap := by
  obtain ⟨h1, h2, h3, h4, h5⟩ := h
  rw [hU]
  exact ⟨((h1.kept hS.2.1).narrow hF).moved hW.alike, h2.warm hW, h3.warm hW, ((h4.kept hS.2.1).narrow hF).moved hW.alike, ((h5.kept hS.2.1).narrow hF).moved hW.alike⟩
theorem SWx.same {adK adV : Nat → Nat} {A : Nat → Prop} {s U : State} {H : Heap} (hW : s.vm = U.vm) (h : SWx adK adV A s H) : SWx adK adV A U H := by
  obtain ⟨h1, h2, h3, h4, h5⟩ := h
  have ha : s.vm.Alike U.vm := by rw [hW]; exact Vm.Alike.refl _
  exact ⟨h1.moved ha, h2.same hW.symm, h3.same hW.symm, h4.moved ha, h5.moved ha⟩
theorem SWA.same {A : Nat → Prop} {s U : State} {H : Heap} (hW : s.vm = U.vm) (h : SWA A s H) : SWA A U H := by
  obtain ⟨adK, adV, h1⟩ := h
  exact ⟨adK, adV, h1.same hW⟩
theorem SWA.call {A B : Nat → Prop} {s U : State} {H : Heap} {locs : List Loc} (hS : va_S A s.heap H locs) (hF : ∀ q, B q → A q) (hU : U.heap = H) (hW : s.WarmedH U.vm) (h : SWA A s s.heap) : SWA B U U.heap := by
  obtain ⟨adK, adV, h1⟩ := h
  exact ⟨adK, adV, SWx.call hS hF hU hW h1⟩
def NWA (A : Nat → Prop) (U : State) : Prop := NW U ∧ SWA A U U.heap
theorem NWA.call {A B : Nat → Prop} {s U : State} {H : Heap} {locs : List Loc} (h : NWA A s) (hS : va_S A s.heap H locs) (hF : ∀ q, B q → A q) (hU : U.heap = H) (hW : s.WarmedH U.vm) : NWA B U := ⟨h.1.warm hW, SWA.call hS hF hU hW h.2⟩
abbrev rmv (k mc ms : Nat) : Room := { frames := k, cells := mc, slots := ms, locals := 100 * k }
abbrev vw_Y : Type := List (ClassId × FieldType)
def cPc (D : va_G) (tys : vw_Y) (av : List Value) (wc : va_W) (sz : Nat) : Array Value → State → Prop := va_Pc av (fun U => U.heap.size = sz ∧ va_P D vwCl wc U.heap ∧ va_K D vwCl tys U ∧ va_D (fun _ => True) wc ∧ NWA (va_A wc sz) U)
def cB (D : va_G) (tys : vw_Y) (A : Nat → Prop) (u : va_W) (t : State) : Prop := va_P D vwCl u t.heap ∧ va_D A u
theorem cPc_blind {D : va_G} {tys : vw_Y} {av : List Value} {wc : va_W} {sz : Nat} : FrameBlind (cPc D tys av wc sz) := fun a U g mk h => ⟨h.1, h.2.1, h.2.2.1, va_K.moved (u := U) (U := U.calling g mk a) (Vm.Alike.refl U.vm) h.2.2.2.1, h.2.2.2.2.1, ⟨NW.same (s := U) (U := U.calling g mk a) rfl h.2.2.2.2.2.1, SWA.same (s := U) (U := U.calling g mk a) rfl h.2.2.2.2.2.2⟩⟩
/-- a contract with an int (or boolean) for its answer; the world behind it is a list of cells u -/
def Ci (l : Launch) (D : va_G) (tys : vw_Y) (y : MethodName) (bytes : ByteArray) (maxL : Nat) (ret : Option FieldType) (k mc ms : Nat) (av : List Value) (wc : va_W) (post : Int32 → va_W → Prop) : Prop := ∀ sz : Nat, Met l y (bws y bytes maxL ret) (rmv k mc ms) (cPc D tys av wc sz) (va_Qi post (cB D tys (va_A wc sz)) (va_A wc sz)) mc ms (va_A wc sz)
/-- a contract without an answer -/
def Cv (l : Launch) (D : va_G) (tys : vw_Y) (y : MethodName) (bytes : ByteArray) (maxL : Nat) (k mc ms : Nat) (av : List Value) (wc : va_W) (post : va_W → Prop) : Prop := ∀ sz : Nat, Met l y (bws y bytes maxL none) (rmv k mc ms) (cPc D tys av wc sz) (va_Qv post (cB D tys (va_A wc sz)) (va_A wc sz)) mc ms (va_A wc sz)
/-- what every row of a walk stands on -/
def Zx (p : Program) (s : State) (m : MethodId) (args : Array Value) (meth : Method) (c : Code) (cc : ByteArray) (nL : Nat) (ret : Option FieldType) (own : String) (A : Nat → Prop) (tys : vw_Y) (D : va_G) : Prop := p.tables.exec = Jvm.exec ∧ c.code = cc ∧ c.maxLocals = nL ∧ s.vm.findClass own = some m.cls ∧ (∀ w ∈ BW, w.before args s = true) ∧ NWA A s ∧ va_K D vwCl tys s ∧ (∀ q, s.heap.size ≤ q → A q) ∧ meth.locks = false ∧ meth.sig.returnType = ret
theorem Ci.of {l : Launch} {D : va_G} {tys : vw_Y} {y : MethodName} {bytes : ByteArray} {maxL : Nat} {ret : Option FieldType} {k mc ms : Nat} {av : List Value} {wc : va_W} {post : Int32 → va_W → Prop} (hy : plainName y.cls = true) (hav : (lg_sl av).length ≤ maxL)
    (body : ∀ (p : Program) (e : Env) (s : State) (m : MethodId) (below : List Frame) (meth : Method) (c : Code) (A : Nat → Prop) (ls : Array Slot), Zx p s m av.toArray meth c bytes maxL ret y.cls A tys D → meth.name = y.name → va_P D vwCl wc s.heap → va_D A wc → lv_has ls maxL (lv_args 0 av) →
      W p l e (rmv k mc ms) s m av.toArray below meth c s.heap [] 0 0 (MQ below (va_Qi post (cB D tys A) A) av.toArray s mc ms A) (F0 m 0 ls [])) : Ci l D tys y bytes maxL ret k mc ms av wc post := by
  intro sz
  refine Met.ofW (cc := bytes) (maxL := maxL) (ret := ret) hy rfl ?_
  intro p e s m args below meth c s₁ B hml hv
  obtain ⟨rfl, hsz, hP, hK, hD0, hN⟩ := hv
  subst hsz
  have hts := atoms_spec (ws := bws y bytes maxL ret) B.pre
  have hown : s.vm.findClass y.cls = some m.cls := findClass_of_methodNamed B.named
  have hin : meth.name = y.name := (name_of_methodNamed B.named B.method).1
  have hl := lv_entry av (n := maxL) hav
  rw [lg_entry_eq]
  exact body p e s m below meth c _ _ ⟨B.exec, B.bytes, hml, hown, fun w h => hts w (List.mem_cons_of_mem _ h), hN, hK, fun q h => Or.inr h, B.notSynchronized, B.returns⟩ hin hP hD0.self hl
theorem Cv.of {l : Launch} {D : va_G} {tys : vw_Y} {y : MethodName} {bytes : ByteArray} {maxL : Nat} {k mc ms : Nat} {av : List Value} {wc : va_W} {post : va_W → Prop} (hy : plainName y.cls = true) (hav : (lg_sl av).length ≤ maxL)
    (body : ∀ (p : Program) (e : Env) (s : State) (m : MethodId) (below : List Frame) (meth : Method) (c : Code) (A : Nat → Prop) (ls : Array Slot), Zx p s m av.toArray meth c bytes maxL none y.cls A tys D → meth.name = y.name → va_P D vwCl wc s.heap → va_D A wc → lv_has ls maxL (lv_args 0 av) →
      W p l e (rmv k mc ms) s m av.toArray below meth c s.heap [] 0 0 (MQ below (va_Qv post (cB D tys A) A) av.toArray s mc ms A) (F0 m 0 ls [])) : Cv l D tys y bytes maxL k mc ms av wc post := by
  intro sz
  refine Met.ofW (cc := bytes) (maxL := maxL) (ret := none) hy rfl ?_
  intro p e s m args below meth c s₁ B hml hv
  obtain ⟨rfl, hsz, hP, hK, hD0, hN⟩ := hv
  subst hsz
  have hts := atoms_spec (ws := bws y bytes maxL none) B.pre
  have hown : s.vm.findClass y.cls = some m.cls := findClass_of_methodNamed B.named
  have hin : meth.name = y.name := (name_of_methodNamed B.named B.method).1
  have hl := lv_entry av (n := maxL) hav
  rw [lg_entry_eq]
  exact body p e s m below meth c _ _ ⟨B.exec, B.bytes, hml, hown, fun w h => hts w (List.mem_cons_of_mem _ h), hN, hK, fun q h => Or.inr h, B.notSynchronized, B.returns⟩ hin hP hD0.self hl
theorem va_P.sub2 {D : va_G} {cl : List vw_C} {ws wc : va_W} {H : Heap} (h : va_P D cl ws H) (is : List Nat) (hs : is.map (fun i => ws[i]?) = wc.map some) : va_P D cl wc H := fun k q hk => by
  obtain ⟨i, -, h2⟩ := va_in_of is hs hk
  exact h i q h2
section ZC
variable {p : Program} {l : Launch} {e : Env} {R : Room} {s : State} {m : MethodId} {args : Array Value} {below : List Frame} {meth : Method} {c : Code} {H : Heap} {locs : List Loc} {cells slots : Nat} {Q : State → Prop}
variable {cc : ByteArray} {pc nL : Nat} {rt : Option FieldType} {ls : Array Slot} {rest st0 : List Value} {D : va_G} {A : Nat → Prop} {tys : vw_Y} {ws wc wr : va_W} {own : String}
variable {y : MethodName} {bytes : ByteArray} {maxL k mc ms index b nA : Nat} {ret : Option FieldType} {As : List Value} {post : Int32 → va_W → Prop} {postv : va_W → Prop}
theorem raw_free (hD : va_D A wc) (hA : ∀ q, s.heap.size ≤ q → A q) (hS : va_S A s.heap H locs) : ∀ q, va_A wc H.size q → A q := by
  intro q h
  rcases h with ⟨k, e, h⟩ | h
  · exact hD.2 k (q, e) h
  · exact hA q (Nat.le_trans hS.1 h)
/-- invokevirtual, an int answer: what the callee's cells are behind it, and that all else is kept -/
theorem raw_Vi {ci q0 : Nat} {fs : List Value} {qc : vw_C} (Z : Zx p s m args meth c cc nL rt own A tys D) (hl : ls.size = nL) (hM : Ci l D tys y bytes maxL ret k mc ms (.ref b :: As) wc post) (g : GoodIn BW (wsV own index y.cls y (bws y bytes maxL ret)))
    (hd : y.cls ≠ "java/lang/invoke/MethodHandle" ∧ y.cls ≠ "java/lang/invoke/VarHandle" ∧ (parseMethodDescriptor y.desc).map (fun d => d.parameters.length) = some nA) (hnA : As.length = nA) (hR : k + 1 ≤ R.frames ∧ 8 + (maxL + 11) + 100 * k ≤ R.locals)
    (hc : vwCl[ci]? = some qc) (hqc : qc.1 = y.cls) (he : wc[q0]? = some (b, .inr (ci, fs))) (hPc : va_P D vwCl wc H) (hDc : va_D A wc) (hS : va_S A s.heap H locs)
    (hst : st0 = As.reverse ++ .ref b :: rest) (hrm : (rest.map fun v => v.category).sum ≤ 8) (hdg : decode cc pc = .ok (.invokevirtual index, 3)) (hcs : cells + mc ≤ R.cells ∧ slots + ms ≤ R.slots)
    (kk : ∀ (r : Int32) (u : va_W) (H1 : Heap) (locs1 : List Loc), post r u → (∀ q : Nat, q < H.size → ¬ va_A wc H.size q → H1[q]? = H[q]?) → va_P D vwCl u H1 → va_D (va_A wc H.size) u → va_S A s.heap H1 locs1 → W p l e R s m args below meth c H1 locs1 (cells + mc) (slots + ms) Q (F0 m (pc + 3) ls (.int r :: rest))) :
    W p l e R s m args below meth c H locs cells slots Q (F0 m pc ls st0) := by
  obtain ⟨hx, hb, hml, hown, hw, hN, hK, hA, -, -⟩ := Z
  have hFc := raw_free hDc hA hS
  have hrec := va_recv hK hPc hc he
  rw [hqc] at hrec
  refine va_calli (va_runV (As := As) (rest := rest) ⟨hx, hb, hml, hown, hw⟩ (hM H.size) (cwV nA hw g rfl rfl rfl ⟨rfl, hd⟩ hR) ⟨cPc_blind, hrec, fun U hU hW => ⟨rfl, by rw [hU], by rw [hU]; exact hPc, va_K.moved hW.alike hK, hDc.weaken (fun _ _ _ _ => trivial), hN.call hS hFc hU hW⟩⟩ rfl hnA hl hst (lv_room hrm) hdg hcs) hS (fun q _ h => hFc q h) hFc (fun r u t H1 locs1 ht hvm hw1 hB hz1 hk1 hS1 => ?_)
  obtain ⟨hP1, hD1⟩ := hB
  rw [ht] at hP1
  exact kk r u H1 locs1 hw1 hk1 hP1 hD1 hS1
theorem raw_Vv {ci q0 : Nat} {fs : List Value} {qc : vw_C} (Z : Zx p s m args meth c cc nL rt own A tys D) (hl : ls.size = nL) (hM : Cv l D tys y bytes maxL k mc ms (.ref b :: As) wc postv) (g : GoodIn BW (wsV own index y.cls y (bws y bytes maxL none)))
    (hd : y.cls ≠ "java/lang/invoke/MethodHandle" ∧ y.cls ≠ "java/lang/invoke/VarHandle" ∧ (parseMethodDescriptor y.desc).map (fun d => d.parameters.length) = some nA) (hnA : As.length = nA) (hR : k + 1 ≤ R.frames ∧ 8 + (maxL + 11) + 100 * k ≤ R.locals)
    (hc : vwCl[ci]? = some qc) (hqc : qc.1 = y.cls) (he : wc[q0]? = some (b, .inr (ci, fs))) (hPc : va_P D vwCl wc H) (hDc : va_D A wc) (hS : va_S A s.heap H locs)
    (hst : st0 = As.reverse ++ .ref b :: rest) (hrm : (rest.map fun v => v.category).sum ≤ 8) (hdg : decode cc pc = .ok (.invokevirtual index, 3)) (hcs : cells + mc ≤ R.cells ∧ slots + ms ≤ R.slots)
    (kk : ∀ (u : va_W) (H1 : Heap) (locs1 : List Loc), postv u → (∀ q : Nat, q < H.size → ¬ va_A wc H.size q → H1[q]? = H[q]?) → va_P D vwCl u H1 → va_D (va_A wc H.size) u → va_S A s.heap H1 locs1 → W p l e R s m args below meth c H1 locs1 (cells + mc) (slots + ms) Q (F0 m (pc + 3) ls rest)) :
    W p l e R s m args below meth c H locs cells slots Q (F0 m pc ls st0) := by
  obtain ⟨hx, hb, hml, hown, hw, hN, hK, hA, -, -⟩ := Z
  have hFc := raw_free hDc hA hS
  have hrec := va_recv hK hPc hc he
  rw [hqc] at hrec
  refine va_callv (va_runV (As := As) (rest := rest) ⟨hx, hb, hml, hown, hw⟩ (hM H.size) (cwV nA hw g rfl rfl rfl ⟨rfl, hd⟩ hR) ⟨cPc_blind, hrec, fun U hU hW => ⟨rfl, by rw [hU], by rw [hU]; exact hPc, va_K.moved hW.alike hK, hDc.weaken (fun _ _ _ _ => trivial), hN.call hS hFc hU hW⟩⟩ rfl hnA hl hst (lv_room hrm) hdg hcs) hS (fun q _ h => hFc q h) hFc (fun u t H1 locs1 ht hvm hw1 hB hz1 hk1 hS1 => ?_)
  obtain ⟨hP1, hD1⟩ := hB
  rw [ht] at hP1
  exact kk u H1 locs1 hw1 hk1 hP1 hD1 hS1
theorem raw_Si (Z : Zx p s m args meth c cc nL rt own A tys D) (hl : ls.size = nL) (hM : Ci l D tys y bytes maxL ret k mc ms As wc post) (g : GoodIn BW (va_wsS own index y (bws y bytes maxL ret)))
    (hd : y.cls ≠ "java/lang/invoke/MethodHandle" ∧ y.cls ≠ "java/lang/invoke/VarHandle" ∧ (parseMethodDescriptor y.desc).map (fun d => d.parameters.length) = some nA) (hnA : As.length = nA) (hR : k + 1 ≤ R.frames ∧ 8 + (maxL + 11) + 100 * k ≤ R.locals)
    (hPc : va_P D vwCl wc H) (hDc : va_D A wc) (hS : va_S A s.heap H locs)
    (hst : st0 = As.reverse ++ rest) (hrm : (rest.map fun v => v.category).sum ≤ 8) (hdg : decode cc pc = .ok (.invokestatic index, 3)) (hcs : cells + mc ≤ R.cells ∧ slots + ms ≤ R.slots)
    (kk : ∀ (r : Int32) (u : va_W) (H1 : Heap) (locs1 : List Loc), post r u → (∀ q : Nat, q < H.size → ¬ va_A wc H.size q → H1[q]? = H[q]?) → va_P D vwCl u H1 → va_D (va_A wc H.size) u → va_S A s.heap H1 locs1 → W p l e R s m args below meth c H1 locs1 (cells + mc) (slots + ms) Q (F0 m (pc + 3) ls (.int r :: rest))) :
    W p l e R s m args below meth c H locs cells slots Q (F0 m pc ls st0) := by
  obtain ⟨hx, hb, hml, hown, hw, hN, hK, hA, -, -⟩ := Z
  have hFc := raw_free hDc hA hS
  refine va_calli (va_runS (As := As) (rest := rest) ⟨hx, hb, hml, hown, hw⟩ (hM H.size) (va_cwS nA hw g rfl rfl rfl hd hR) ⟨cPc_blind, fun U hU hW => ⟨rfl, by rw [hU], by rw [hU]; exact hPc, va_K.moved hW.alike hK, hDc.weaken (fun _ _ _ _ => trivial), hN.call hS hFc hU hW⟩⟩ rfl hnA hl hst (lv_room hrm) hdg hcs) hS (fun q _ h => hFc q h) hFc (fun r u t H1 locs1 ht hvm hw1 hB hz1 hk1 hS1 => ?_)
  obtain ⟨hP1, hD1⟩ := hB
  rw [ht] at hP1
  exact kk r u H1 locs1 hw1 hk1 hP1 hD1 hS1
theorem raw_Sv (Z : Zx p s m args meth c cc nL rt own A tys D) (hl : ls.size = nL) (hM : Cv l D tys y bytes maxL k mc ms As wc postv) (g : GoodIn BW (va_wsS own index y (bws y bytes maxL none)))
    (hd : y.cls ≠ "java/lang/invoke/MethodHandle" ∧ y.cls ≠ "java/lang/invoke/VarHandle" ∧ (parseMethodDescriptor y.desc).map (fun d => d.parameters.length) = some nA) (hnA : As.length = nA) (hR : k + 1 ≤ R.frames ∧ 8 + (maxL + 11) + 100 * k ≤ R.locals)
    (hPc : va_P D vwCl wc H) (hDc : va_D A wc) (hS : va_S A s.heap H locs)
    (hst : st0 = As.reverse ++ rest) (hrm : (rest.map fun v => v.category).sum ≤ 8) (hdg : decode cc pc = .ok (.invokestatic index, 3)) (hcs : cells + mc ≤ R.cells ∧ slots + ms ≤ R.slots)
    (kk : ∀ (u : va_W) (H1 : Heap) (locs1 : List Loc), postv u → (∀ q : Nat, q < H.size → ¬ va_A wc H.size q → H1[q]? = H[q]?) → va_P D vwCl u H1 → va_D (va_A wc H.size) u → va_S A s.heap H1 locs1 → W p l e R s m args below meth c H1 locs1 (cells + mc) (slots + ms) Q (F0 m (pc + 3) ls rest)) :
    W p l e R s m args below meth c H locs cells slots Q (F0 m pc ls st0) := by
  obtain ⟨hx, hb, hml, hown, hw, hN, hK, hA, -, -⟩ := Z
  have hFc := raw_free hDc hA hS
  refine va_callv (va_runS (As := As) (rest := rest) ⟨hx, hb, hml, hown, hw⟩ (hM H.size) (va_cwS nA hw g rfl rfl rfl hd hR) ⟨cPc_blind, fun U hU hW => ⟨rfl, by rw [hU], by rw [hU]; exact hPc, va_K.moved hW.alike hK, hDc.weaken (fun _ _ _ _ => trivial), hN.call hS hFc hU hW⟩⟩ rfl hnA hl hst (lv_room hrm) hdg hcs) hS (fun q _ h => hFc q h) hFc (fun u t H1 locs1 ht hvm hw1 hB hz1 hk1 hS1 => ?_)
  obtain ⟨hP1, hD1⟩ := hB
  rw [ht] at hP1
  exact kk u H1 locs1 hw1 hk1 hP1 hD1 hS1
/-- a static method of a nest mate that is private -/
theorem raw_SNi (Z : Zx p s m args meth c cc nL rt own A tys D) (hl : ls.size = nL) (hM : Ci l D tys y bytes maxL ret k mc ms As wc post) (h1 : (own, index, y) ∈ nwq) (h2 : Cond.static y ∈ BW) (h4 : Cond.initialized y.cls ∈ BW) (h5 : Cond.code y bytes maxL ret ∈ BW)
    (hd : y.cls ≠ "java/lang/invoke/MethodHandle" ∧ y.cls ≠ "java/lang/invoke/VarHandle" ∧ (parseMethodDescriptor y.desc).map (fun d => d.parameters.length) = some nA) (hnA : As.length = nA) (hR : k + 1 ≤ R.frames ∧ 8 + (maxL + 11) + 100 * k ≤ R.locals)
    (hPc : va_P D vwCl wc H) (hDc : va_D A wc) (hS : va_S A s.heap H locs)
    (hst : st0 = As.reverse ++ rest) (hrm : (rest.map fun v => v.category).sum ≤ 8) (hdg : decode cc pc = .ok (.invokestatic index, 3)) (hcs : cells + mc ≤ R.cells ∧ slots + ms ≤ R.slots)
    (kk : ∀ (r : Int32) (u : va_W) (H1 : Heap) (locs1 : List Loc), post r u → (∀ q : Nat, q < H.size → ¬ va_A wc H.size q → H1[q]? = H[q]?) → va_P D vwCl u H1 → va_D (va_A wc H.size) u → va_S A s.heap H1 locs1 → W p l e R s m args below meth c H1 locs1 (cells + mc) (slots + ms) Q (F0 m (pc + 3) ls (.int r :: rest))) :
    W p l e R s m args below meth c H locs cells slots Q (F0 m pc ls st0) := by
  obtain ⟨hx, hb, hml, hown, hw, hN, hK, hA, -, -⟩ := Z
  have hFc := raw_free hDc hA hS
  refine va_calli (va_runSN (As := As) (rest := rest) ⟨hx, hb, hml, hown, hw⟩ (hM H.size) ⟨va_cnB nA hw (bws_good h5) rfl rfl rfl (hN.1.1 _ h1) (hw _ h4) hd hR, hw _ h2, trivial⟩ ⟨cPc_blind, fun U hU hW => ⟨rfl, by rw [hU], by rw [hU]; exact hPc, va_K.moved hW.alike hK, hDc.weaken (fun _ _ _ _ => trivial), hN.call hS hFc hU hW⟩⟩ rfl hnA hl hst (lv_room hrm) hdg hcs) hS (fun q _ h => hFc q h) hFc (fun r u t H1 locs1 ht hvm hw1 hB hz1 hk1 hS1 => ?_)
  obtain ⟨hP1, hD1⟩ := hB
  rw [ht] at hP1
  exact kk r u H1 locs1 hw1 hk1 hP1 hD1 hS1
/-- a constructor, by a plain link -/
theorem raw_I (Z : Zx p s m args meth c cc nL rt own A tys D) (hl : ls.size = nL) (hM : Cv l D tys y bytes maxL k mc ms (.ref b :: As) wc postv) (h1 : Cond.methodLink own index y ∈ BW) (h2 : Cond.instanceMethod y ∈ BW) (h4 : Cond.initialized y.cls ∈ BW) (h5 : Cond.code y bytes maxL none ∈ BW) (hy : y.name = "<init>")
    (hd : y.cls ≠ "java/lang/invoke/MethodHandle" ∧ y.cls ≠ "java/lang/invoke/VarHandle" ∧ (parseMethodDescriptor y.desc).map (fun d => d.parameters.length) = some nA) (hnA : As.length = nA) (hR : k + 1 ≤ R.frames ∧ 8 + (maxL + 11) + 100 * k ≤ R.locals)
    (hPc : va_P D vwCl wc H) (hDc : va_D A wc) (hS : va_S A s.heap H locs)
    (hst : st0 = As.reverse ++ .ref b :: rest) (hrm : (rest.map fun v => v.category).sum ≤ 8) (hdg : decode cc pc = .ok (.invokespecial index, 3)) (hcs : cells + mc ≤ R.cells ∧ slots + ms ≤ R.slots)
    (kk : ∀ (u : va_W) (H1 : Heap) (locs1 : List Loc), postv u → (∀ q : Nat, q < H.size → ¬ va_A wc H.size q → H1[q]? = H[q]?) → va_P D vwCl u H1 → va_D (va_A wc H.size) u → va_S A s.heap H1 locs1 → W p l e R s m args below meth c H1 locs1 (cells + mc) (slots + ms) Q (F0 m (pc + 3) ls rest)) :
    W p l e R s m args below meth c H locs cells slots Q (F0 m pc ls st0) := by
  obtain ⟨hx, hb, hml, hown, hw, hN, hK, hA, -, -⟩ := Z
  have hFc := raw_free hDc hA hS
  refine va_callv (va_runI (As := As) (rest := rest) ⟨hx, hb, hml, hown, hw⟩ (hM H.size) (cwI nA hw (bws_good h5) rfl rfl rfl (hw _ h4) (hw _ h1) (hw _ h2) hy hd hR) ⟨cPc_blind, fun U hU hW => ⟨rfl, by rw [hU], by rw [hU]; exact hPc, va_K.moved hW.alike hK, hDc.weaken (fun _ _ _ _ => trivial), hN.call hS hFc hU hW⟩⟩ rfl hnA hl hst (lv_room hrm) hdg hcs) hS (fun q _ h => hFc q h) hFc (fun u t H1 locs1 ht hvm hw1 hB hz1 hk1 hS1 => ?_)
  obtain ⟨hP1, hD1⟩ := hB
  rw [ht] at hP1
  exact kk u H1 locs1 hw1 hk1 hP1 hD1 hS1
/-- a constructor of a nest mate that is private -/
theorem raw_IN (Z : Zx p s m args meth c cc nL rt own A tys D) (hl : ls.size = nL) (hM : Cv l D tys y bytes maxL k mc ms (.ref b :: As) wc postv) (h1 : (own, index, y) ∈ nwq) (h2 : Cond.instanceMethod y ∈ BW) (h4 : Cond.initialized y.cls ∈ BW) (h5 : Cond.code y bytes maxL none ∈ BW) (hy : y.name = "<init>")
    (hd : y.cls ≠ "java/lang/invoke/MethodHandle" ∧ y.cls ≠ "java/lang/invoke/VarHandle" ∧ (parseMethodDescriptor y.desc).map (fun d => d.parameters.length) = some nA) (hnA : As.length = nA) (hR : k + 1 ≤ R.frames ∧ 8 + (maxL + 11) + 100 * k ≤ R.locals)
    (hPc : va_P D vwCl wc H) (hDc : va_D A wc) (hS : va_S A s.heap H locs)
    (hst : st0 = As.reverse ++ .ref b :: rest) (hrm : (rest.map fun v => v.category).sum ≤ 8) (hdg : decode cc pc = .ok (.invokespecial index, 3)) (hcs : cells + mc ≤ R.cells ∧ slots + ms ≤ R.slots)
    (kk : ∀ (u : va_W) (H1 : Heap) (locs1 : List Loc), postv u → (∀ q : Nat, q < H.size → ¬ va_A wc H.size q → H1[q]? = H[q]?) → va_P D vwCl u H1 → va_D (va_A wc H.size) u → va_S A s.heap H1 locs1 → W p l e R s m args below meth c H1 locs1 (cells + mc) (slots + ms) Q (F0 m (pc + 3) ls rest)) :
    W p l e R s m args below meth c H locs cells slots Q (F0 m pc ls st0) := by
  obtain ⟨hx, hb, hml, hown, hw, hN, hK, hA, -, -⟩ := Z
  have hFc := raw_free hDc hA hS
  refine va_callv (va_runIN (As := As) (rest := rest) ⟨hx, hb, hml, hown, hw⟩ (hM H.size) ⟨va_cnB nA hw (bws_good h5) rfl rfl rfl (hN.1.1 _ h1) (hw _ h4) hd hR, hy, hw _ h2⟩ ⟨cPc_blind, fun U hU hW => ⟨rfl, by rw [hU], by rw [hU]; exact hPc, va_K.moved hW.alike hK, hDc.weaken (fun _ _ _ _ => trivial), hN.call hS hFc hU hW⟩⟩ rfl hnA hl hst (lv_room hrm) hdg hcs) hS (fun q _ h => hFc q h) hFc (fun u t H1 locs1 ht hvm hw1 hB hz1 hk1 hS1 => ?_)
  obtain ⟨hP1, hD1⟩ := hB
  rw [ht] at hP1
  exact kk u H1 locs1 hw1 hk1 hP1 hD1 hS1
/-- behind a call: the caller's other cells, and the callee's world -/
theorem z_join {u : va_W} {H1 : Heap} (Z : Zx p s m args meth c cc nL rt own A tys D) (hS : va_S A s.heap H locs) (hP : va_P D vwCl ws H) (hD : va_D A ws) (isC isR : List Nat) (hC : isC.map (fun i => ws[i]?) = wc.map some) (hnC : va_nd isC = true) (hRr : isR.map (fun i => ws[i]?) = wr.map some) (hn : va_nd isR = true) (hdis : ∀ i ∈ isR, i ∉ isC)
    (hk1 : ∀ q : Nat, q < H.size → ¬ va_A wc H.size q → H1[q]? = H[q]?) (hP1 : va_P D vwCl u H1) (hD1 : va_D (va_A wc H.size) u) : va_P D vwCl (wr ++ u) H1 ∧ va_D A (wr ++ u) :=
  va_join hP hD isC isR hC hRr hn hdis hk1 (raw_free (hD.sub isC hnC hC) Z.2.2.2.2.2.2.2.1 hS) hP1 hD1
/-- getfield -/
theorem z_get (Z : Zx p s m args meth c cc nL rt own A tys D) {C : String} {T : u_T} {N ci a : Nat} (hin : ∀ w ∈ u_ws C T N, w ∈ BW) (hP : va_P D vwCl ws H) (q0 : Nat) {fs : List Value} (he : ws[q0]? = some (a, .inr (ci, fs))) (hc : vwCl[ci]? = some (C, T, N)) (k : Nat) (hk : k < N) (hlink : Cond.fieldLink own index (T k).1 (T k).2.1 (T k).2.2.1 ∈ BW) {v : Value} (hv : fs[k]? = some v) (hdg : decode cc pc = .ok (.getfield index, 3))
    (kk : W p l e R s m args below meth c H locs cells slots Q (F0 m (pc + 3) ls (v :: rest))) : W p l e R s m args below meth c H locs cells slots Q (F0 m pc ls (.ref a :: rest)) :=
  va_get Z.1 Z.2.1 Z.2.2.2.2.1 hin Z.2.2.2.1 Z.2.2.2.2.2.2.1 hP q0 he hc k hk (Z.2.2.2.2.1 _ hlink) (fun _ h => h) hv hdg kk
/-- putfield -/
theorem z_put (Z : Zx p s m args meth c cc nL rt own A tys D) {C : String} {T : u_T} {N ci a : Nat} (hin : ∀ w ∈ u_ws C T N, w ∈ BW) (ty0 : Nat → FieldType) (hty : ∀ k, k < N → parseFieldDescriptor (T k).2.2.1 = some (ty0 k)) (hnm : ∀ a, a < N → ∀ b, b < N → a ≠ b → (T a).2.1 ≠ (T b).2.1) (hP : va_P D vwCl ws H) (hD : va_D A ws) (hS : va_S A s.heap H locs) (q0 : Nat) {fs : List Value} (he : ws[q0]? = some (a, .inr (ci, fs))) (hc : vwCl[ci]? = some (C, T, N)) (k : Nat) (hk : k < N) (hlink : Cond.fieldLink own index (T k).1 (T k).2.1 (T k).2.2.1 ∈ BW) (hfin : (T k).2.2.2 = false) {v : Value} (hn : narrow (ty0 k) v = v) (hfit : fits (ty0 k) v = true) (hl : k < fs.length) (hdg : decode cc pc = .ok (.putfield index, 3))
    (kk : ∀ (H1 : Heap) (locs1 : List Loc), va_P D vwCl (ws.set q0 (a, .inr (ci, fs.set k v))) H1 → va_D A (ws.set q0 (a, .inr (ci, fs.set k v))) → va_S A s.heap H1 locs1 → W p l e R s m args below meth c H1 locs1 cells slots Q (F0 m (pc + 3) ls rest)) : W p l e R s m args below meth c H locs cells slots Q (F0 m pc ls (v :: .ref a :: rest)) :=
  va_put Z.1 Z.2.1 Z.2.2.2.2.1 hin ty0 hty hnm Z.2.2.2.1 Z.2.2.2.2.2.2.1 hP hD hS q0 he hc k hk (Z.2.2.2.2.1 _ hlink) (fun _ h => h) hfin (hty k hk) hn hfit hl hdg kk
/-- putfield of a final field, in the constructor -/
theorem z_putF (Z : Zx p s m args meth c cc nL rt own A tys D) {C : String} {T : u_T} {N ci a : Nat} (hin : ∀ w ∈ u_ws C T N, w ∈ BW) (ty0 : Nat → FieldType) (hty : ∀ k, k < N → parseFieldDescriptor (T k).2.2.1 = some (ty0 k)) (hnm : ∀ a, a < N → ∀ b, b < N → a ≠ b → (T a).2.1 ≠ (T b).2.1) (hP : va_P D vwCl ws H) (hD : va_D A ws) (hS : va_S A s.heap H locs) (q0 : Nat) {fs : List Value} (he : ws[q0]? = some (a, .inr (ci, fs))) (hc : vwCl[ci]? = some (C, T, N)) (k : Nat) (hk : k < N) (hlink : Cond.fieldLink own index (T k).1 (T k).2.1 (T k).2.2.1 ∈ BW) (hfin : (T k).2.2.2 = true) (hin2 : meth.name = "<init>") (hdecl : (T k).1 = own) {v : Value} (hn : narrow (ty0 k) v = v) (hfit : fits (ty0 k) v = true) (hl : k < fs.length) (hdg : decode cc pc = .ok (.putfield index, 3))
    (kk : ∀ (H1 : Heap) (locs1 : List Loc), va_P D vwCl (ws.set q0 (a, .inr (ci, fs.set k v))) H1 → va_D A (ws.set q0 (a, .inr (ci, fs.set k v))) → va_S A s.heap H1 locs1 → W p l e R s m args below meth c H1 locs1 cells slots Q (F0 m (pc + 3) ls rest)) : W p l e R s m args below meth c H locs cells slots Q (F0 m pc ls (v :: .ref a :: rest)) :=
  va_putF Z.1 Z.2.1 Z.2.2.2.2.1 hin ty0 hty hnm Z.2.2.2.1 Z.2.2.2.2.2.2.1 hP hD hS q0 he hc k hk (Z.2.2.2.2.1 _ hlink) (fun _ h => h) hfin hin2 hdecl (hty k hk) hn hfit hl hdg kk
/-- iaload, iastore, newarray of ints -/
theorem z_iald (Z : Zx p s m args meth c cc nL rt own A tys D) (hP : va_P D vwCl ws H) (q0 t0 : Nat) {a : Nat} {cA : ClassId} {n : Nat} {f : Nat → Int32} (ha : ws[q0]? = some (a, .inl (cA, n, .inl f))) (ht : tys[t0]? = some (cA, .int)) {i : Int32} (hin : vp_in i n) (hdg : decode cc pc = .ok (.iaload, 1))
    (kk : W p l e R s m args below meth c H locs cells slots Q (F0 m (pc + 1) ls (.int (f i.toNatClampNeg) :: rest))) : W p l e R s m args below meth c H locs cells slots Q (F0 m pc ls (.int i :: .ref a :: rest)) :=
  va_iald Z.1 Z.2.1 Z.2.2.2.2.2.2.1 hP q0 t0 ha ht hin hdg kk
theorem z_iast (Z : Zx p s m args meth c cc nL rt own A tys D) (hP : va_P D vwCl ws H) (hD : va_D A ws) (hS : va_S A s.heap H locs) (q0 t0 : Nat) {a : Nat} {cA : ClassId} {n : Nat} {f : Nat → Int32} {x : Int32} (ha : ws[q0]? = some (a, .inl (cA, n, .inl f))) (ht : tys[t0]? = some (cA, .int)) {i : Int32} (hin : vp_in i n) (hdg : decode cc pc = .ok (.iastore, 1))
    (kk : ∀ (H1 : Heap) (locs1 : List Loc), va_P D vwCl (ws.set q0 (a, .inl (cA, n, .inl (upd f i.toNatClampNeg x)))) H1 → va_D A (ws.set q0 (a, .inl (cA, n, .inl (upd f i.toNatClampNeg x)))) → va_S A s.heap H1 locs1 → W p l e R s m args below meth c H1 locs1 cells slots Q (F0 m (pc + 1) ls rest)) : W p l e R s m args below meth c H locs cells slots Q (F0 m pc ls (.int x :: .int i :: .ref a :: rest)) :=
  va_iast Z.1 Z.2.1 Z.2.2.2.2.2.2.1 hP hD hS q0 t0 ha ht hin hdg kk
theorem z_newi (Z : Zx p s m args meth c cc nL rt own A tys D) (harr : Cond.arrayClass .int ∈ BW) (hP : va_P D vwCl ws H) (hD : va_D A ws) (hS : va_S A s.heap H locs) (t0 : Nat) {cI : ClassId} (ht : tys[t0]? = some (cI, .int)) {n : Int32} {N : Nat} (hn : ¬ n < 0) (hN : n.toNatClampNeg = N) (hby : N * componentBytes .int ≤ 536870912) (hc : cells + 1 ≤ R.cells) (hs : slots + N ≤ R.slots) (hdg : decode cc pc = .ok (.newarray .int, 2))
    (kk : ∀ (q : Nat) (H1 : Heap), va_P D vwCl (ws ++ [(q, .inl (cI, N, .inl (fun _ => 0)))]) H1 → va_D A (ws ++ [(q, .inl (cI, N, .inl (fun _ => 0)))]) → va_S A s.heap H1 locs → W p l e R s m args below meth c H1 locs (cells + 1) (slots + N) Q (F0 m (pc + 2) ls (.ref q :: rest))) : W p l e R s m args below meth c H locs cells slots Q (F0 m pc ls (.int n :: rest)) := by
  refine va_newa (atype := .int) (ty := .int) (a0 := (N, .inl (fun _ => 0))) Z.1 Z.2.1 (Z.2.2.2.2.1 _ harr) rfl Z.2.2.2.2.2.2.1 hP hD hS Z.2.2.2.2.2.2.2.1 (fun cA => rfl) hn hN hby hc hs hdg (fun q cA H1 hK1 hP1 hD1 hS1 => ?_)
  have h1 : s.vm.findClass ("[" ++ (FieldType.int).toString) = some cI := (Z.2.2.2.2.2.2.1.2 t0 _ ht).2
  have h2 : s.vm.findClass ("[" ++ (FieldType.int).toString) = some cA := (hK1.2 tys.length (cA, .int) (by simp)).2
  have e : cA = cI := Option.some.inj (h2.symm.trans h1)
  subst e
  exact kk q H1 hP1 hD1 hS1
/-- new -/
theorem z_new (Z : Zx p s m args meth c cc nL rt own A tys D) {C : String} {T : u_T} {N ci : Nat} (hin : ∀ w ∈ u_ws C T N, w ∈ BW) (ty0 : Nat → FieldType) (hty : ∀ k, k < N → parseFieldDescriptor (T k).2.2.1 = some (ty0 k)) (hcl : Cond.classLink own index C ∈ BW) (hinst : Cond.instantiable C N ∈ BW) (hini : Cond.initialized C ∈ BW) (hP : va_P D vwCl ws H) (hD : va_D A ws) (hS : va_S A s.heap H locs) (hc : vwCl[ci]? = some (C, T, N)) {fs : List Value} (hfs : (List.range N).map (fun j => defaultValue (ty0 j)) = (List.range N).map (vp_V fs)) (hcells : cells + 1 ≤ R.cells) (hslots : slots + N ≤ R.slots) (hdg : decode cc pc = .ok (.new index, 3))
    (kk : ∀ (q : Nat) (H1 : Heap), va_P D vwCl (ws ++ [(q, .inr (ci, fs))]) H1 → va_D A (ws ++ [(q, .inr (ci, fs))]) → va_S A s.heap H1 locs → W p l e R s m args below meth c H1 locs (cells + 1) (slots + N) Q (F0 m (pc + 3) ls (.ref q :: rest))) : W p l e R s m args below meth c H locs cells slots Q (F0 m pc ls rest) :=
  va_new Z.1 Z.2.1 Z.2.2.2.2.1 hin ty0 hty Z.2.2.2.1 (Z.2.2.2.2.1 _ hcl) (Z.2.2.2.2.1 _ hinst) (Z.2.2.2.2.1 _ hini) Z.2.2.2.2.2.2.1 hP hD hS Z.2.2.2.2.2.2.2.1 hc (fun j hj => (List.map_inj_left.mp hfs) j (List.mem_range.mpr hj)) hcells hslots hdg kk
/-- Object.<init> -/
theorem z_obj (Z : Zx p s m args meth c cc nL rt own A tys D) (hl : ls.size = nL) {a : Nat} (h1 : Cond.methodLink own index Lib.objectInit ∈ BW) (h2 : Cond.instanceMethod Lib.objectInit ∈ BW) (h3 : Cond.code Lib.objectInit ⟨#[0xb1]⟩ 1 none ∈ BW) (hdg : decode cc pc = .ok (.invokespecial index, 3)) (hf : 1 ≤ R.frames) (hlo : (rest.map fun v => v.category).sum + 12 ≤ R.locals)
    (kk : W p l e R s m args below meth c H locs cells slots Q (F0 m (pc + 3) ls rest)) : W p l e R s m args below meth c H locs cells slots Q (F0 m pc ls (.ref a :: rest)) :=
  W.objInit Z.1 Z.2.1 Z.2.2.2.1 (Z.2.2.2.2.1 _ h1) (Z.2.2.2.2.1 _ h2) (Z.2.2.2.2.1 _ h3) rfl (by rw [Z.2.2.1]; exact hl) rfl hdg hf (by show 2 * 0 + _ + 12 ≤ _; omega) kk
/-- the ends -/
theorem z_ret {ty : FieldType} {v : Int32} {u : va_W} (Z : Zx p s m args meth c cc nL (some ty) own A tys D) (hnar : narrow ty (.int v) = .int v) (hP : va_P D vwCl u H) (hD : va_D A u) (hS : va_S A s.heap H locs) (hpost : post v u) (hdg : decode cc pc = .ok (.ireturn, 1)) (hc : cells ≤ mc) (hs : slots ≤ ms) :
    W p l e R s m args below meth c H locs cells slots (MQ below (va_Qi post (cB D tys A) A) args s mc ms A) (F0 m pc ls [.int v]) := by
  refine W.widen hc hs ?_
  have hlocks := Z.2.2.2.2.2.2.2.2.1
  exact W.zret Z.1 Z.2.1 Z.2.2.2.2.2.2.2.2.2 hnar (fun t ht hW => ⟨⟨v, u, rfl, hpost, by rw [ht]; exact hP, hD⟩, hS.F ht⟩) hS.2.2 hdg hlocks
theorem z_vret {u : va_W} (Z : Zx p s m args meth c cc nL none own A tys D) (hP : va_P D vwCl u H) (hD : va_D A u) (hS : va_S A s.heap H locs) (hpost : postv u) (hdg : decode cc pc = .ok (.return_, 1)) (hc : cells ≤ mc) (hs : slots ≤ ms) :
    W p l e R s m args below meth c H locs cells slots (MQ below (va_Qv postv (cB D tys A) A) args s mc ms A) (F0 m pc ls []) := by
  refine W.widen hc hs ?_
  have hlocks := Z.2.2.2.2.2.2.2.2.1
  exact W.vret Z.1 Z.2.1 Z.2.2.2.2.2.2.2.2.2 (fun t ht hW => ⟨⟨u, rfl, hpost, by rw [ht]; exact hP, hD⟩, hS.F ht⟩) hS.2.2 hdg hlocks
end ZC
abbrev ty3 (cI cM cT cJ cZ : ClassId) : vw_Y := [(cI, .int), (cM, .object RX1), (cT, .object RX9), (cJ, .long), (cZ, .boolean)]
theorem vin {i : Int32} {n : Nat} (h : ¬ (i < 0 ∨ n ≤ i.toNatClampNeg)) : vp_in i n := h
theorem zlt (a b : Int32) : a < b ↔ a.toInt < b.toInt := Int32.lt_iff_toInt_lt
theorem zle (a b : Int32) : a ≤ b ↔ a.toInt ≤ b.toInt := Int32.le_iff_toInt_le
theorem zeq (a b : Int32) : a = b ↔ a.toInt = b.toInt := Int32.toInt_inj.symm
theorem zl_0 : (0 : Int32).toInt = 0 := by decide
theorem zl_1 : (1 : Int32).toInt = 1 := by decide
theorem zl_2 : (2 : Int32).toInt = 2 := by decide
theorem zl_3 : (3 : Int32).toInt = 3 := by decide
theorem zl_4 : (4 : Int32).toInt = 4 := by decide
theorem zl_5 : (5 : Int32).toInt = 5 := by decide
theorem zl_6 : (6 : Int32).toInt = 6 := by decide
theorem zl_7 : (7 : Int32).toInt = 7 := by decide
theorem zl_8 : (8 : Int32).toInt = 8 := by decide
theorem zl_9 : (9 : Int32).toInt = 9 := by decide
theorem zl_10 : (10 : Int32).toInt = 10 := by decide
theorem zl_11 : (11 : Int32).toInt = 11 := by decide
theorem zl_12 : (12 : Int32).toInt = 12 := by decide
theorem zl_13 : (13 : Int32).toInt = 13 := by decide
theorem zl_14 : (14 : Int32).toInt = 14 := by decide
theorem zl_15 : (15 : Int32).toInt = 15 := by decide
theorem zl_16 : (16 : Int32).toInt = 16 := by decide
theorem zl_17 : (17 : Int32).toInt = 17 := by decide
theorem zl_18 : (18 : Int32).toInt = 18 := by decide
theorem zl_19 : (19 : Int32).toInt = 19 := by decide
theorem zl_20 : (20 : Int32).toInt = 20 := by decide
theorem zl_21 : (21 : Int32).toInt = 21 := by decide
theorem zl_22 : (22 : Int32).toInt = 22 := by decide
theorem zl_23 : (23 : Int32).toInt = 23 := by decide
theorem zl_24 : (24 : Int32).toInt = 24 := by decide
theorem zl_25 : (25 : Int32).toInt = 25 := by decide
theorem zl_26 : (26 : Int32).toInt = 26 := by decide
theorem zl_27 : (27 : Int32).toInt = 27 := by decide
theorem zl_28 : (28 : Int32).toInt = 28 := by decide
theorem zl_29 : (29 : Int32).toInt = 29 := by decide
theorem zl_30 : (30 : Int32).toInt = 30 := by decide
theorem zl_31 : (31 : Int32).toInt = 31 := by decide
theorem zl_32 : (32 : Int32).toInt = 32 := by decide
theorem zl_33 : (33 : Int32).toInt = 33 := by decide
theorem zl_34 : (34 : Int32).toInt = 34 := by decide
theorem zl_35 : (35 : Int32).toInt = 35 := by decide
theorem zl_36 : (36 : Int32).toInt = 36 := by decide
theorem zl_37 : (37 : Int32).toInt = 37 := by decide
theorem zl_38 : (38 : Int32).toInt = 38 := by decide
theorem zl_39 : (39 : Int32).toInt = 39 := by decide
theorem zl_40 : (40 : Int32).toInt = 40 := by decide
theorem zl_41 : (41 : Int32).toInt = 41 := by decide
theorem zl_42 : (42 : Int32).toInt = 42 := by decide
theorem zl_43 : (43 : Int32).toInt = 43 := by decide
theorem zl_44 : (44 : Int32).toInt = 44 := by decide
theorem zl_45 : (45 : Int32).toInt = 45 := by decide
theorem zl_46 : (46 : Int32).toInt = 46 := by decide
theorem zl_47 : (47 : Int32).toInt = 47 := by decide
theorem zl_48 : (48 : Int32).toInt = 48 := by decide
theorem zl_49 : (49 : Int32).toInt = 49 := by decide
theorem zl_50 : (50 : Int32).toInt = 50 := by decide
theorem zl_51 : (51 : Int32).toInt = 51 := by decide
theorem zl_52 : (52 : Int32).toInt = 52 := by decide
theorem zl_53 : (53 : Int32).toInt = 53 := by decide
theorem zl_54 : (54 : Int32).toInt = 54 := by decide
theorem zl_55 : (55 : Int32).toInt = 55 := by decide
theorem zl_56 : (56 : Int32).toInt = 56 := by decide
theorem zl_57 : (57 : Int32).toInt = 57 := by decide
theorem zl_58 : (58 : Int32).toInt = 58 := by decide
theorem zl_59 : (59 : Int32).toInt = 59 := by decide
theorem zl_60 : (60 : Int32).toInt = 60 := by decide
theorem zl_61 : (61 : Int32).toInt = 61 := by decide
theorem zl_62 : (62 : Int32).toInt = 62 := by decide
theorem zl_63 : (63 : Int32).toInt = 63 := by decide
theorem zl_64 : (64 : Int32).toInt = 64 := by decide
theorem zl_65 : (65 : Int32).toInt = 65 := by decide
theorem zl_82 : (82 : Int32).toInt = 82 := by decide
theorem zl_99 : (99 : Int32).toInt = 99 := by decide
theorem zl_100 : (100 : Int32).toInt = 100 := by decide
theorem zl_160 : (160 : Int32).toInt = 160 := by decide
theorem zl_299 : (299 : Int32).toInt = 299 := by decide
theorem zl_300 : (300 : Int32).toInt = 300 := by decide
theorem zl_301 : (301 : Int32).toInt = 301 := by decide
theorem zl_382 : (382 : Int32).toInt = 382 := by decide
theorem zl_398 : (398 : Int32).toInt = 398 := by decide
theorem zl_399 : (399 : Int32).toInt = 399 := by decide
theorem zl_464 : (464 : Int32).toInt = 464 := by decide
theorem zl_680 : (680 : Int32).toInt = 680 := by decide
theorem zl_862 : (862 : Int32).toInt = 862 := by decide
theorem zl_999 : (999 : Int32).toInt = 999 := by decide
theorem zl_1000 : (1000 : Int32).toInt = 1000 := by decide
theorem zl_9999 : (9999 : Int32).toInt = 9999 := by decide
theorem zl_10000 : (10000 : Int32).toInt = 10000 := by decide
theorem zl_1000000 : (1000000 : Int32).toInt = 1000000 := by decide
theorem zl_m1 : ((-1) : Int32).toInt = (-1) := by decide
theorem zl_m2 : ((-2) : Int32).toInt = (-2) := by decide
theorem zl_m3 : ((-3) : Int32).toInt = (-3) := by decide
theorem zl_m8 : ((-8) : Int32).toInt = (-8) := by decide
theorem zinc {i : Int32} (h : i.toInt < 2147483647) : (i + 1).toInt = i.toInt + 1 := by
  have h1 : -2147483648 ≤ i.toInt := Int32.le_toInt i
  rw [Int32.toInt_add, show (1 : Int32).toInt = 1 by decide, Int.bmod_eq_of_le (by omega) (by omega)]
theorem va_P_left {D : va_G} {cl : List vw_C} {a b : va_W} {H : Heap} (h : va_P D cl (a ++ b) H) : va_P D cl a H := fun k q hk => h k q (by rw [List.getElem?_append_left (List.getElem?_eq_some_iff.mp hk).1]; exact hk)
theorem va_D_left {A : Nat → Prop} {a b : va_W} (h : va_D A (a ++ b)) : va_D A a := ⟨fun i j x y hx hy hxy => h.1 i j x y (by rw [List.getElem?_append_left (List.getElem?_eq_some_iff.mp hx).1]; exact hx) (by rw [List.getElem?_append_left (List.getElem?_eq_some_iff.mp hy).1]; exact hy) hxy, fun k q hk => h.2 k q (by rw [List.getElem?_append_left (List.getElem?_eq_some_iff.mp hk).1]; exact hk)⟩
section ZT
variable {p : Program} {l : Launch} {e : Env} {R : Room} {s : State} {m : MethodId} {args : Array Value} {below : List Frame} {meth : Method} {c : Code} {H : Heap} {locs : List Loc} {cells slots : Nat} {Q : State → Prop} {pc : Nat} {ls : Array Slot} {rest : List Value}
theorem z_topi {x y : Int32} (h : x = y) (k : W p l e R s m args below meth c H locs cells slots Q (F0 m pc ls (.int y :: rest))) : W p l e R s m args below meth c H locs cells slots Q (F0 m pc ls (.int x :: rest)) := h ▸ k
end ZT
theorem upd_all {g : Nat → Int32} {i : Nat} {v : Int32} (h : ∀ j, j < i → g j = v) : ∀ j, j < i + 1 → upd g i v j = v := by
  intro j hj
  rcases Nat.lt_or_ge j i with q | q
  · rw [pk_un (Nat.ne_of_lt q)]; exact h j q
  · obtain rfl : j = i := by omega
    exact pk_us
theorem upd_ext {P : Nat → Int32 → Prop} {g : Nat → Int32} {i : Nat} {v : Int32} (h : ∀ j, j < i → P j (g j)) (hv : P i v) : ∀ j, j < i + 1 → P j (upd g i v j) := by
  intro j hj
  rcases Nat.lt_or_ge j i with q | q
  · rw [pk_un (Nat.ne_of_lt q)]; exact h j q
  · obtain rfl : j = i := by omega
    rw [pk_us]; exact hv
section ZA
variable {p : Program} {l : Launch} {e : Env} {R : Room} {s : State} {m : MethodId} {args : Array Value} {below : List Frame} {meth : Method} {c : Code} {H : Heap} {locs : List Loc} {cells slots : Nat} {Q : State → Prop}
variable {cc : ByteArray} {pc nL : Nat} {rt : Option FieldType} {ls : Array Slot} {rest : List Value} {D : va_G} {A : Nat → Prop} {tys : vw_Y} {ws : va_W} {own : String}
theorem z_aald (Z : Zx p s m args meth c cc nL rt own A tys D) (hP : va_P D vwCl ws H) (q0 t0 : Nat) {a : Nat} {cA : ClassId} {C : String} {n v : Nat} {f : Nat → Option Nat} (ha : ws[q0]? = some (a, .inl (cA, n, .inr (.inr (.inr (.inr f)))))) (ht : tys[t0]? = some (cA, .object C)) {i : Int32} (hin : vp_in i n) (hv : f i.toNatClampNeg = some v) (hdg : decode cc pc = .ok (.aaload, 1))
    (kk : W p l e R s m args below meth c H locs cells slots Q (F0 m (pc + 1) ls (.ref v :: rest))) : W p l e R s m args below meth c H locs cells slots Q (F0 m pc ls (.int i :: .ref a :: rest)) := by
  refine va_aldq Z.1 Z.2.1 Z.2.2.2.2.2.2.1 hP q0 t0 ha ht hin hdg ?_
  rw [hv]
  exact kk
end ZA
theorem zsub {i : Int32} (h0 : 100 ≤ i.toInt) (h1 : i.toInt < 2147483647) : (i - 100).toInt = i.toInt - 100 := by
  rw [Int32.toInt_sub, show (100 : Int32).toInt = 100 by decide, Int.bmod_eq_of_le (by omega) (by omega)]
theorem zcl {x : Int32} (h : 0 ≤ x.toInt) : (x.toNatClampNeg : Int) = x.toInt := by
  obtain ⟨j, hj, rfl⟩ := nI_of (x := x) (by rw [Int32.lt_iff_toInt_lt, show (0 : Int32).toInt = 0 by decide]; omega)
  rw [nI_clamp hj, nI_toInt hj]
theorem zclt {x : Int32} {n : Nat} (h : 0 ≤ x.toInt) (h2 : x.toInt < n) : x.toNatClampNeg < n := by
  have := zcl h
  omega
theorem zcinj {x y : Int32} (h : 0 ≤ x.toInt) (h2 : 0 ≤ y.toInt) (e : x.toNatClampNeg = y.toNatClampNeg) : x = y := by
  have h3 := zcl h
  have h4 := zcl h2
  exact Int32.toInt_inj.mp (by omega)
/-- the reference's cells as its constructor leaves them -/
def af0 : Nat → Int32 := upd (upd (fun _ => 0) (7 : Int32).toNatClampNeg (-1)) (5 : Int32).toNatClampNeg 13
theorem af0_ge {x : Int32} (h : 8 ≤ x.toInt) : af0 x.toNatClampNeg = 0 := by
  have e := zcl (x := x) (by omega)
  have h5 : (5 : Int32).toNatClampNeg = 5 := by decide
  have h7 : (7 : Int32).toNatClampNeg = 7 := by decide
  unfold af0
  rw [h5, h7, pk_un (by omega), pk_un (by omega)]
theorem zt82 {x : Int32} (h : 0 ≤ x.toInt) (h2 : x.toInt ≤ 1000) : (82 + x).toInt = 82 + x.toInt := by
  rw [Int32.toInt_add, show (82 : Int32).toInt = 82 by decide, Int.bmod_eq_of_le (by omega) (by omega)]
theorem zt82b {x : Int32} (h : 0 ≤ x.toInt) (h2 : x.toInt ≤ 1000) : ((82 + x) - 100).toInt = x.toInt - 18 := by
  rw [Int32.toInt_sub, zt82 h h2, show (100 : Int32).toInt = 100 by decide, Int.bmod_eq_of_le (by omega) (by omega)]
  omega
def Rng (lo hi : Int) (n : Nat) (f : Nat → Int32) : Prop := ∀ j, j < n → lo ≤ (f j).toInt ∧ (f j).toInt ≤ hi
theorem rng_upd {lo hi : Int} {n k : Nat} {f : Nat → Int32} {v : Int32} (h : Rng lo hi n f) (hv : lo ≤ v.toInt ∧ v.toInt ≤ hi) : Rng lo hi n (upd f k v) := by
  intro j hj
  by_cases e : j = k
  · subst e; rw [pk_us]; exact hv
  · rw [pk_un e]; exact h j hj
theorem rng_cpy {lo hi : Int} {n m : Nat} {f g : Nat → Int32} (hf : Rng lo hi n f) (hg : Rng lo hi n g) : Rng lo hi n (va_cpy f g 0 0 m) := by
  intro j hj
  by_cases e : j < m
  · rw [pk_cpy_in (Nat.zero_le _) (by omega)]; simpa using hf j hj
  · rw [pk_cpy_out (by omega)]; exact hg j hj
theorem zaddg {a b : Int32} (h1 : -2147483648 ≤ a.toInt + b.toInt) (h2 : a.toInt + b.toInt < 2147483648) : (a + b).toInt = a.toInt + b.toInt := by
  rw [Int32.toInt_add, Int.bmod_eq_of_le (by omega) (by omega)]
theorem zsubg {a b : Int32} (h1 : -2147483648 ≤ a.toInt - b.toInt) (h2 : a.toInt - b.toInt < 2147483648) : (a - b).toInt = a.toInt - b.toInt := by
  rw [Int32.toInt_sub, Int.bmod_eq_of_le (by omega) (by omega)]
theorem zmulg {a b : Int32} (h1 : -2147483648 ≤ a.toInt * b.toInt) (h2 : a.toInt * b.toInt < 2147483648) : (a * b).toInt = a.toInt * b.toInt := by
  rw [Int32.toInt_mul, Int.bmod_eq_of_le (by omega) (by omega)]
theorem znb {v : Int32} (h : 0 ≤ v.toInt ∧ v.toInt ≤ 1) : narrow .boolean (.int v) = .int v := by
  have : v = 0 ∨ v = 1 := by
    rcases (show v.toInt = 0 ∨ v.toInt = 1 by omega) with e | e
    · exact Or.inl (Int32.toInt_inj.mp (by rw [e]; decide))
    · exact Or.inr (Int32.toInt_inj.mp (by rw [e]; decide))
  rcases this with rfl | rfl <;> rfl

theorem i_X0 : ∀ w ∈ u_ws RX0 TX0 7, w ∈ BW := bw_in [344, 346, 348, 350, 352, 354, 356] (by decide +kernel) (by decide +kernel)
theorem i_X1 : ∀ w ∈ u_ws RX1 TX1 7, w ∈ BW := bw_in [196, 198, 200, 202, 204, 206, 208] (by decide +kernel) (by decide +kernel)
theorem i_X2 : ∀ w ∈ u_ws RX2 TX2 7, w ∈ BW := bw_in [431, 433, 435, 437, 439, 441, 443] (by decide +kernel) (by decide +kernel)
theorem i_X3 : ∀ w ∈ u_ws RX3 TX3 4, w ∈ BW := bw_in [143, 145, 147, 149] (by decide +kernel) (by decide +kernel)
theorem i_X4 : ∀ w ∈ u_ws RX4 TX4 3, w ∈ BW := bw_in [168, 170, 172] (by decide +kernel) (by decide +kernel)
theorem i_X5 : ∀ w ∈ u_ws RX5 TX5 3, w ∈ BW := bw_in [224, 226, 228] (by decide +kernel) (by decide +kernel)
theorem i_X6 : ∀ w ∈ u_ws RX6 TX6 5, w ∈ BW := bw_in [370, 372, 374, 376, 378] (by decide +kernel) (by decide +kernel)
theorem i_X7 : ∀ w ∈ u_ws RX7 TX7 6, w ∈ BW := bw_in [406, 408, 410, 412, 414, 416] (by decide +kernel) (by decide +kernel)
theorem i_X8 : ∀ w ∈ u_ws RX8 TX8 4, w ∈ BW := bw_in [459, 461, 463, 465] (by decide +kernel) (by decide +kernel)
theorem i_X9 : ∀ w ∈ u_ws RX9 TX9 7, w ∈ BW := bw_in [315, 317, 319, 321, 323, 325, 327] (by decide +kernel) (by decide +kernel)
theorem i_X10 : ∀ w ∈ u_ws RX10 TX10 13, w ∈ BW := bw_in [263, 265, 267, 269, 271, 273, 275, 277, 279, 281, 283, 285, 287] (by decide +kernel) (by decide +kernel)
theorem i_X11 : ∀ w ∈ u_ws RX11 TX11 7, w ∈ BW := bw_in [475, 477, 479, 481, 483, 485, 487] (by decide +kernel) (by decide +kernel)
theorem i_X12 : ∀ w ∈ u_ws RX12 TX12 36, w ∈ BW := bw_in [1053, 1055, 1057, 1059, 1061, 1063, 1065, 1067, 1069, 1071, 1073, 1075, 1077, 1079, 1081, 1083, 1085, 1087, 1089, 1091, 1093, 1095, 1097, 1099, 1101, 1103, 1105, 1107, 1109, 1111, 1113, 1115, 1117, 1119, 1121, 1123] (by decide +kernel) (by decide +kernel)
