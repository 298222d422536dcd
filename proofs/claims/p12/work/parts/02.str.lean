/-! ===== contracts of String's own methods: the addresses of the constants stand in them ===== -/
def sPc (D : va_G) (tys : vw_Y) (adK adV : Nat → Nat) (av : List Value) (wc : va_W) (sz : Nat) : Array Value → State → Prop := va_Pc av (fun U => U.heap.size = sz ∧ va_P D vwCl wc U.heap ∧ va_K D vwCl tys U ∧ va_D (fun _ => True) wc ∧ NWA (va_A wc sz) U ∧ SWx adK adV (va_A wc sz) U U.heap)
theorem sPc_blind {D : va_G} {tys : vw_Y} {adK adV : Nat → Nat} {av : List Value} {wc : va_W} {sz : Nat} : FrameBlind (sPc D tys adK adV av wc sz) := fun a U g mk h => ⟨h.1, h.2.1, h.2.2.1, va_K.moved (u := U) (U := U.calling g mk a) (Vm.Alike.refl U.vm) h.2.2.2.1, h.2.2.2.2.1, ⟨NW.same (s := U) (U := U.calling g mk a) rfl h.2.2.2.2.2.1.1, SWA.same (s := U) (U := U.calling g mk a) rfl h.2.2.2.2.2.1.2⟩, SWx.same (s := U) (U := U.calling g mk a) rfl h.2.2.2.2.2.2⟩
def Csi (l : Launch) (D : va_G) (tys : vw_Y) (adK adV : Nat → Nat) (y : MethodName) (bytes : ByteArray) (maxL : Nat) (ret : Option FieldType) (k mc ms : Nat) (av : List Value) (wc : va_W) (post : Int32 → va_W → Prop) : Prop := ∀ sz : Nat, Met l y (bws y bytes maxL ret) (rmv k mc ms) (sPc D tys adK adV av wc sz) (va_Qi post (cB D tys (va_A wc sz)) (va_A wc sz)) mc ms (va_A wc sz)
def Csv (l : Launch) (D : va_G) (tys : vw_Y) (adK adV : Nat → Nat) (y : MethodName) (bytes : ByteArray) (maxL : Nat) (k mc ms : Nat) (av : List Value) (wc : va_W) (post : va_W → Prop) : Prop := ∀ sz : Nat, Met l y (bws y bytes maxL none) (rmv k mc ms) (sPc D tys adK adV av wc sz) (va_Qv post (cB D tys (va_A wc sz)) (va_A wc sz)) mc ms (va_A wc sz)
theorem Csi.of {l : Launch} {D : va_G} {tys : vw_Y} {adK adV : Nat → Nat} {y : MethodName} {bytes : ByteArray} {maxL : Nat} {ret : Option FieldType} {k mc ms : Nat} {av : List Value} {wc : va_W} {post : Int32 → va_W → Prop} (hy : plainName y.cls = true) (hav : (lg_sl av).length ≤ maxL)
    (body : ∀ (p : Program) (e : Env) (s : State) (m : MethodId) (below : List Frame) (meth : Method) (c : Code) (A : Nat → Prop) (ls : Array Slot), Zx p s m av.toArray meth c bytes maxL ret y.cls A tys D → SWx adK adV A s s.heap → meth.name = y.name → va_P D vwCl wc s.heap → va_D A wc → lv_has ls maxL (lv_args 0 av) →
      W p l e (rmv k mc ms) s m av.toArray below meth c s.heap [] 0 0 (MQ below (va_Qi post (cB D tys A) A) av.toArray s mc ms A) (F0 m 0 ls [])) : Csi l D tys adK adV y bytes maxL ret k mc ms av wc post := by
  intro sz
  refine Met.ofW (cc := bytes) (maxL := maxL) (ret := ret) hy rfl ?_
  intro p e s m args below meth c s₁ B hml hv
  obtain ⟨rfl, hsz, hP, hK, hD0, hN, hs⟩ := hv
  subst hsz
  have hts := atoms_spec (ws := bws y bytes maxL ret) B.pre
  have hown : s.vm.findClass y.cls = some m.cls := findClass_of_methodNamed B.named
  have hin : meth.name = y.name := (name_of_methodNamed B.named B.method).1
  have hl := lv_entry av (n := maxL) hav
  rw [lg_entry_eq]
  exact body p e s m below meth c _ _ ⟨B.exec, B.bytes, hml, hown, fun w h => hts w (List.mem_cons_of_mem _ h), hN, hK, fun q h => Or.inr h, B.notSynchronized, B.returns⟩ hs hin hP hD0.self hl
theorem Csv.of {l : Launch} {D : va_G} {tys : vw_Y} {adK adV : Nat → Nat} {y : MethodName} {bytes : ByteArray} {maxL : Nat} {k mc ms : Nat} {av : List Value} {wc : va_W} {post : va_W → Prop} (hy : plainName y.cls = true) (hav : (lg_sl av).length ≤ maxL)
    (body : ∀ (p : Program) (e : Env) (s : State) (m : MethodId) (below : List Frame) (meth : Method) (c : Code) (A : Nat → Prop) (ls : Array Slot), Zx p s m av.toArray meth c bytes maxL none y.cls A tys D → SWx adK adV A s s.heap → meth.name = y.name → va_P D vwCl wc s.heap → va_D A wc → lv_has ls maxL (lv_args 0 av) →
      W p l e (rmv k mc ms) s m av.toArray below meth c s.heap [] 0 0 (MQ below (va_Qv post (cB D tys A) A) av.toArray s mc ms A) (F0 m 0 ls [])) : Csv l D tys adK adV y bytes maxL k mc ms av wc post := by
  intro sz
  refine Met.ofW (cc := bytes) (maxL := maxL) (ret := none) hy rfl ?_
  intro p e s m args below meth c s₁ B hml hv
  obtain ⟨rfl, hsz, hP, hK, hD0, hN, hs⟩ := hv
  subst hsz
  have hts := atoms_spec (ws := bws y bytes maxL none) B.pre
  have hown : s.vm.findClass y.cls = some m.cls := findClass_of_methodNamed B.named
  have hin : meth.name = y.name := (name_of_methodNamed B.named B.method).1
  have hl := lv_entry av (n := maxL) hav
  rw [lg_entry_eq]
  exact body p e s m below meth c _ _ ⟨B.exec, B.bytes, hml, hown, fun w h => hts w (List.mem_cons_of_mem _ h), hN, hK, fun q h => Or.inr h, B.notSynchronized, B.returns⟩ hs hin hP hD0.self hl
section ZS
variable {p : Program} {l : Launch} {e : Env} {R : Room} {s : State} {m : MethodId} {args : Array Value} {below : List Frame} {meth : Method} {c : Code} {H : Heap} {locs : List Loc} {cells slots : Nat} {Q : State → Prop}
variable {cc : ByteArray} {pc nL : Nat} {rt : Option FieldType} {ls : Array Slot} {rest st0 : List Value} {D : va_G} {A : Nat → Prop} {tys : vw_Y} {ws wc wr : va_W} {own : String} {adK adV : Nat → Nat}
variable {y : MethodName} {bytes : ByteArray} {maxL k mc ms index b nA : Nat} {ret : Option FieldType} {As : List Value} {post : Int32 → va_W → Prop} {postv : va_W → Prop}
theorem raw_SiS (Z : Zx p s m args meth c cc nL rt own A tys D) (hl : ls.size = nL) (hs : SWx adK adV A s s.heap) (hM : Csi l D tys adK adV y bytes maxL ret k mc ms As wc post) (g : GoodIn BW (va_wsS own index y (bws y bytes maxL ret)))
    (hd : y.cls ≠ "java/lang/invoke/MethodHandle" ∧ y.cls ≠ "java/lang/invoke/VarHandle" ∧ (parseMethodDescriptor y.desc).map (fun d => d.parameters.length) = some nA) (hnA : As.length = nA) (hR : k + 1 ≤ R.frames ∧ 8 + (maxL + 11) + 100 * k ≤ R.locals)
    (hPc : va_P D vwCl wc H) (hDc : va_D A wc) (hS : va_S A s.heap H locs)
    (hst : st0 = As.reverse ++ rest) (hrm : (rest.map fun v => v.category).sum ≤ 8) (hdg : decode cc pc = .ok (.invokestatic index, 3)) (hcs : cells + mc ≤ R.cells ∧ slots + ms ≤ R.slots)
    (kk : ∀ (r : Int32) (u : va_W) (H1 : Heap) (locs1 : List Loc), post r u → (∀ q : Nat, q < H.size → ¬ va_A wc H.size q → H1[q]? = H[q]?) → va_P D vwCl u H1 → va_D (va_A wc H.size) u → va_S A s.heap H1 locs1 → W p l e R s m args below meth c H1 locs1 (cells + mc) (slots + ms) Q (F0 m (pc + 3) ls (.int r :: rest))) :
    W p l e R s m args below meth c H locs cells slots Q (F0 m pc ls st0) := by
  obtain ⟨hx, hb, hml, hown, hw, hN, hK, hA, -, -⟩ := Z
  have hFc := raw_free hDc hA hS
  refine va_calli (va_runS (As := As) (rest := rest) ⟨hx, hb, hml, hown, hw⟩ (hM H.size) (va_cwS nA hw g rfl rfl rfl hd hR) ⟨sPc_blind, fun U hU hW => ⟨rfl, by rw [hU], by rw [hU]; exact hPc, va_K.moved hW.alike hK, hDc.weaken (fun _ _ _ _ => trivial), hN.call hS hFc hU hW, SWx.call hS hFc hU hW hs⟩⟩ rfl hnA hl hst (lv_room hrm) hdg hcs) hS (fun q _ h => hFc q h) hFc (fun r u t H1 locs1 ht hvm hw1 hB hz1 hk1 hS1 => ?_)
  obtain ⟨hP1, hD1⟩ := hB
  rw [ht] at hP1
  exact kk r u H1 locs1 hw1 hk1 hP1 hD1 hS1
theorem raw_SvS (Z : Zx p s m args meth c cc nL rt own A tys D) (hl : ls.size = nL) (hs : SWx adK adV A s s.heap) (hM : Csv l D tys adK adV y bytes maxL k mc ms As wc postv) (g : GoodIn BW (va_wsS own index y (bws y bytes maxL none)))
    (hd : y.cls ≠ "java/lang/invoke/MethodHandle" ∧ y.cls ≠ "java/lang/invoke/VarHandle" ∧ (parseMethodDescriptor y.desc).map (fun d => d.parameters.length) = some nA) (hnA : As.length = nA) (hR : k + 1 ≤ R.frames ∧ 8 + (maxL + 11) + 100 * k ≤ R.locals)
    (hPc : va_P D vwCl wc H) (hDc : va_D A wc) (hS : va_S A s.heap H locs)
    (hst : st0 = As.reverse ++ rest) (hrm : (rest.map fun v => v.category).sum ≤ 8) (hdg : decode cc pc = .ok (.invokestatic index, 3)) (hcs : cells + mc ≤ R.cells ∧ slots + ms ≤ R.slots)
    (kk : ∀ (u : va_W) (H1 : Heap) (locs1 : List Loc), postv u → (∀ q : Nat, q < H.size → ¬ va_A wc H.size q → H1[q]? = H[q]?) → va_P D vwCl u H1 → va_D (va_A wc H.size) u → va_S A s.heap H1 locs1 → W p l e R s m args below meth c H1 locs1 (cells + mc) (slots + ms) Q (F0 m (pc + 3) ls rest)) :
    W p l e R s m args below meth c H locs cells slots Q (F0 m pc ls st0) := by
  obtain ⟨hx, hb, hml, hown, hw, hN, hK, hA, -, -⟩ := Z
  have hFc := raw_free hDc hA hS
  refine va_callv (va_runS (As := As) (rest := rest) ⟨hx, hb, hml, hown, hw⟩ (hM H.size) (va_cwS nA hw g rfl rfl rfl hd hR) ⟨sPc_blind, fun U hU hW => ⟨rfl, by rw [hU], by rw [hU]; exact hPc, va_K.moved hW.alike hK, hDc.weaken (fun _ _ _ _ => trivial), hN.call hS hFc hU hW, SWx.call hS hFc hU hW hs⟩⟩ rfl hnA hl hst (lv_room hrm) hdg hcs) hS (fun q _ h => hFc q h) hFc (fun u t H1 locs1 ht hvm hw1 hB hz1 hk1 hS1 => ?_)
  obtain ⟨hP1, hD1⟩ := hB
  rw [ht] at hP1
  exact kk u H1 locs1 hw1 hk1 hP1 hD1 hS1
theorem raw_ViS {i9 : Nat} (Z : Zx p s m args meth c cc nL rt own A tys D) (hl : ls.size = nL) (hs : SWx adK adV A s s.heap) (hM : Csi l D tys adK adV y bytes maxL ret k mc ms (.ref (adK i9) :: As) wc post) (g : GoodIn BW (wsV own index y.cls y (bws y bytes maxL ret)))
    (hd : y.cls ≠ "java/lang/invoke/MethodHandle" ∧ y.cls ≠ "java/lang/invoke/VarHandle" ∧ (parseMethodDescriptor y.desc).map (fun d => d.parameters.length) = some nA) (hnA : As.length = nA) (hR : k + 1 ≤ R.frames ∧ 8 + (maxL + 11) + 100 * k ≤ R.locals)
    (hi9 : i9 < 2) (hyc : y.cls = "java/lang/String") (hPc : va_P D vwCl wc H) (hDc : va_D A wc) (hS : va_S A s.heap H locs)
    (hst : st0 = As.reverse ++ .ref (adK i9) :: rest) (hrm : (rest.map fun v => v.category).sum ≤ 8) (hdg : decode cc pc = .ok (.invokevirtual index, 3)) (hcs : cells + mc ≤ R.cells ∧ slots + ms ≤ R.slots)
    (kk : ∀ (r : Int32) (u : va_W) (H1 : Heap) (locs1 : List Loc), post r u → (∀ q : Nat, q < H.size → ¬ va_A wc H.size q → H1[q]? = H[q]?) → va_P D vwCl u H1 → va_D (va_A wc H.size) u → va_S A s.heap H1 locs1 → W p l e R s m args below meth c H1 locs1 (cells + mc) (slots + ms) Q (F0 m (pc + 3) ls (.int r :: rest))) :
    W p l e R s m args below meth c H locs cells slots Q (F0 m pc ls st0) := by
  obtain ⟨hx, hb, hml, hown, hw, hN, hK, hA, -, -⟩ := Z
  have hFc := raw_free hDc hA hS
  have hrec := vk_recv hs.1 hi9 hS
  rw [← hyc] at hrec
  refine va_calli (va_runV (As := As) (rest := rest) ⟨hx, hb, hml, hown, hw⟩ (hM H.size) (cwV nA hw g rfl rfl rfl ⟨rfl, hd⟩ hR) ⟨sPc_blind, hrec, fun U hU hW => ⟨rfl, by rw [hU], by rw [hU]; exact hPc, va_K.moved hW.alike hK, hDc.weaken (fun _ _ _ _ => trivial), hN.call hS hFc hU hW, SWx.call hS hFc hU hW hs⟩⟩ rfl hnA hl hst (lv_room hrm) hdg hcs) hS (fun q _ h => hFc q h) hFc (fun r u t H1 locs1 ht hvm hw1 hB hz1 hk1 hS1 => ?_)
  obtain ⟨hP1, hD1⟩ := hB
  rw [ht] at hP1
  exact kk r u H1 locs1 hw1 hk1 hP1 hD1 hS1
end ZS
theorem ex_i {α : Sort _} {p : α → Prop} {b : Prop} (h : ∀ a, p a → b) : (∃ a, p a) → b := fun k => Exists.elim k h
