/-! ===== a contract over a larger world ===== -/
theorem Met.conseq {l : Launch} {y : MethodName} {ws : List Cond} {rm : Room} {Pc Pd : Array Value → State → Prop} {Qc Qd : Array Value → State → Outcome → State → Prop} {mc ms : Nat} {free free2 : Addr → Prop} (h : Met l y ws rm Pc Qc mc ms free) (hP : ∀ a s, Pd a s → Pc a s) (hQ : ∀ a s o t, Pd a s → Qc a s o t → Qd a s o t) (hf : ∀ q, free q → free2 q) : Met l y ws rm Pd Qd mc ms free2 := by
  intro p e h1 h2 h3 s m args below hfr hap hp hk
  obtain ⟨n, o, a1, a2, a3, a4, L, a5, a6⟩ := h p e h1 h2 h3 s m args below hfr hap (hP _ _ hp) trivial
  exact ⟨n, o, a1, a2, a3, hQ _ _ _ _ hp a4, L, a5, fun q hq => hf _ (a6 q hq)⟩
theorem SWA.narrow {A B : Nat → Prop} {s : State} {H : Heap} (h : SWA A s H) (hF : ∀ q, B q → A q) : SWA B s H := by
  obtain ⟨adK, adV, h1, h2, h3, h4, h5⟩ := h
  exact ⟨adK, adV, h1.narrow hF, h2, h3, h4.narrow hF, h5.narrow hF⟩
theorem va_A_sub {X cx : va_W} {sz : Nat} (is : List Nat) (hs : is.map (fun i => X[i]?) = cx.map some) : ∀ q, va_A cx sz q → va_A X sz q := by
  intro q h
  rcases h with ⟨k, e, h⟩ | h
  · obtain ⟨i, -, h2⟩ := va_in_of is hs h
    exact Or.inl ⟨i, e, h2⟩
  · exact Or.inr h
theorem va_A_left {X PL : va_W} {sz : Nat} : ∀ q, va_A X sz q → va_A (X ++ PL) sz q := by
  intro q h
  rcases h with ⟨k, e, h⟩ | h
  · exact Or.inl ⟨k, e, by rw [List.getElem?_append_left (List.getElem?_eq_some_iff.mp h).1]; exact h⟩
  · exact Or.inr h
theorem va_A_pool {X cx PL : va_W} {sz : Nat} (is : List Nat) (hs : is.map (fun i => X[i]?) = cx.map some) : ∀ q, va_A (cx ++ PL) sz q → va_A (X ++ PL) sz q := by
  intro q h
  rcases h with ⟨k, e, h⟩ | h
  · exact Or.inl ⟨_, e, va_part is hs k (q, e) h⟩
  · exact Or.inr h
section ZFR
variable {l : Launch} {D : va_G} {tys : vw_Y} {y : MethodName} {bytes : ByteArray} {maxL k mc ms : Nat} {ret : Option FieldType} {av : List Value} {X cx wr PL : va_W}
theorem Ci.frameQ {post post2 : Int32 → va_W → Prop} (h : Ci l D tys y bytes maxL ret k mc ms av cx post) (isC isR isF : List Nat) (hC : isC.map (fun i => X[i]?) = cx.map some) (hnC : va_nd isC = true) (hR : isR.map (fun i => X[i]?) = wr.map some) (hn : va_nd isR = true) (hdis : ∀ i ∈ isR, i ∉ isC) (hnF : va_nd isF = true)
    (hp : ∀ r u, post r u → ∃ cf : va_W, isF.map (fun i => (wr ++ u)[i]?) = cf.map some ∧ post2 r (cf ++ PL)) : Ci l D tys y bytes maxL ret k mc ms av (X ++ PL) post2 := by
  intro sz
  refine Met.conseq (h sz) ?_ ?_ ?_
  · rintro a s ⟨h1, h2, h3, h4, h5, h6⟩
    exact ⟨h1, h2, (va_P_left h3).sub2 isC hC, h4, (va_D_left h5).sub isC hnC hC, h6.1, h6.2.narrow (fun q hq => va_A_left q (va_A_sub isC hC q hq))⟩
  · rintro a s o t ⟨h1, h2, h3, h4, h5, h6⟩ ⟨⟨r, u, e1, e2, e3, e4⟩, hF⟩
    subst h2
    obtain ⟨hP, hD⟩ := va_joinQ h3 h5.self isC isR hC hR hn hdis (fun q hq hA => hF.2 q hq hA) (fun q hq => va_A_left q (va_A_sub isC hC q hq)) e3 e4
    obtain ⟨cf, g1, g2⟩ := hp r u e2
    exact ⟨⟨r, cf ++ PL, e1, g2, hP.part isF g1, hD.part isF hnF g1⟩, hF.1, fun q hq hA => hF.2 q hq (fun z => hA (va_A_left q (va_A_sub isC hC q z)))⟩
  · intro q hq
    exact va_A_left q (va_A_sub isC hC q hq)
theorem Ci.frameP {post post2 : Int32 → va_W → Prop} (h : Ci l D tys y bytes maxL ret k mc ms av (cx ++ PL) post) (isC isR isF : List Nat) (hC : isC.map (fun i => X[i]?) = cx.map some) (hnC : va_nd isC = true) (hR : isR.map (fun i => X[i]?) = wr.map some) (hn : va_nd isR = true) (hdis : ∀ i ∈ isR, i ∉ isC) (hnF : va_nd isF = true)
    (hp : ∀ r u, post r u → ∃ rx pl1 cf : va_W, u = rx ++ pl1 ∧ isF.map (fun i => (wr ++ rx)[i]?) = cf.map some ∧ post2 r (cf ++ pl1)) : Ci l D tys y bytes maxL ret k mc ms av (X ++ PL) post2 := by
  intro sz
  refine Met.conseq (h sz) ?_ ?_ ?_
  · rintro a s ⟨h1, h2, h3, h4, h5, h6⟩
    exact ⟨h1, h2, h3.part isC hC, h4, h5.part isC hnC hC, h6.1, h6.2.narrow (va_A_pool isC hC)⟩
  · rintro a s o t ⟨h1, h2, h3, h4, h5, h6⟩ ⟨⟨r, u, e1, e2, e3, e4⟩, hF⟩
    subst h2
    obtain ⟨rx, pl1, cf, g0, g1, g2⟩ := hp r u e2
    subst g0
    obtain ⟨hP, hD⟩ := va_joinP h3 h5.self isC isR hC hR hn hdis (fun q hq hA => hF.2 q hq hA) (va_A_pool isC hC) e3 e4
    exact ⟨⟨r, cf ++ pl1, e1, g2, hP.part isF g1, hD.part isF hnF g1⟩, hF.1, fun q hq hA => hF.2 q hq (fun z => hA (va_A_pool isC hC q z))⟩
  · intro q hq
    exact va_A_pool isC hC q hq
end ZFR
section ZJ
variable {D : va_G} {A : Nat → Prop} {a b u : va_W} {H H1 : Heap}
theorem joinL (hP : va_P D vwCl (a ++ b) H) (hD : va_D A (a ++ b)) (hk : ∀ q : Nat, q < H.size → ¬ va_A a H.size q → H1[q]? = H[q]?) (hF : ∀ q, va_A a H.size q → A q) (hP1 : va_P D vwCl u H1) (hD1 : va_D (va_A a H.size) u) : va_P D vwCl (u ++ b) H1 ∧ va_D A (u ++ b) := by
  have at' : ∀ (k : Nat) (q : Nat × va_E), b[k]? = some q → (a ++ b)[a.length + k]? = some q := fun k q h => by rw [List.getElem?_append_right (by omega), Nat.add_sub_cancel_left]; exact h
  have out : ∀ (k : Nat) (q : Nat × va_E), b[k]? = some q → ¬ va_A a H.size q.1 := by
    intro k q h hA
    rcases hA with ⟨j, e, hj⟩ | hge
    · have hl := (List.getElem?_eq_some_iff.mp hj).1
      have := hD.1 j (a.length + k) (q.1, e) q (by rw [List.getElem?_append_left hl]; exact hj) (at' k q h) rfl
      omega
    · have := (hP _ q (at' k q h)).lt
      omega
  have sp : ∀ (k : Nat) (q : Nat × va_E), (u ++ b)[k]? = some q → (u[k]? = some q ∧ k < u.length) ∨ (∃ i, b[i]? = some q ∧ k = u.length + i) := by
    intro k q h
    by_cases hl : k < u.length
    · rw [List.getElem?_append_left hl] at h; exact Or.inl ⟨h, hl⟩
    · rw [List.getElem?_append_right (by omega)] at h; exact Or.inr ⟨k - u.length, h, by omega⟩
  refine ⟨fun k q h => ?_, fun i j x y hx hy hxy => ?_, fun k q h => ?_⟩
  · rcases sp k q h with ⟨h1, -⟩ | ⟨i, h1, -⟩
    · exact hP1 k q h1
    · exact (hP _ q (at' i q h1)).kept (hk q.1 (hP _ q (at' i q h1)).lt (out i q h1))
  · rcases sp i x hx with ⟨h1, e1⟩ | ⟨i1, h1, e1⟩ <;> rcases sp j y hy with ⟨h2, e2⟩ | ⟨j1, h2, e2⟩
    · exact hD1.1 i j x y h1 h2 hxy
    · exact absurd (hD1.2 i x h1) (by rw [hxy]; exact out j1 y h2)
    · exact absurd (hD1.2 j y h2) (by rw [← hxy]; exact out i1 x h1)
    · have := hD.1 _ _ x y (at' i1 x h1) (at' j1 y h2) hxy
      omega
  · rcases sp k q h with ⟨h1, -⟩ | ⟨i, h1, -⟩
    · exact hF _ (hD1.2 k q h1)
    · exact hD.2 _ q (at' i q h1)
theorem joinR (hP : va_P D vwCl (a ++ b) H) (hD : va_D A (a ++ b)) (hk : ∀ q : Nat, q < H.size → ¬ va_A b H.size q → H1[q]? = H[q]?) (hF : ∀ q, va_A b H.size q → A q) (hP1 : va_P D vwCl u H1) (hD1 : va_D (va_A b H.size) u) : va_P D vwCl (a ++ u) H1 ∧ va_D A (a ++ u) := by
  have at' : ∀ (k : Nat) (q : Nat × va_E), a[k]? = some q → (a ++ b)[k]? = some q := fun k q h => by rw [List.getElem?_append_left (List.getElem?_eq_some_iff.mp h).1]; exact h
  have out : ∀ (k : Nat) (q : Nat × va_E), a[k]? = some q → ¬ va_A b H.size q.1 := by
    intro k q h hA
    rcases hA with ⟨j, e, hj⟩ | hge
    · have hl := (List.getElem?_eq_some_iff.mp h).1
      have := hD.1 (a.length + j) k (q.1, e) q (by rw [List.getElem?_append_right (by omega), Nat.add_sub_cancel_left]; exact hj) (at' k q h) rfl
      omega
    · have := (hP _ q (at' k q h)).lt
      omega
  have sp : ∀ (k : Nat) (q : Nat × va_E), (a ++ u)[k]? = some q → (a[k]? = some q ∧ k < a.length) ∨ (∃ i, u[i]? = some q ∧ k = a.length + i) := by
    intro k q h
    by_cases hl : k < a.length
    · rw [List.getElem?_append_left hl] at h; exact Or.inl ⟨h, hl⟩
    · rw [List.getElem?_append_right (by omega)] at h; exact Or.inr ⟨k - a.length, h, by omega⟩
  refine ⟨fun k q h => ?_, fun i j x y hx hy hxy => ?_, fun k q h => ?_⟩
  · rcases sp k q h with ⟨h1, -⟩ | ⟨i, h1, -⟩
    · exact (hP _ q (at' k q h1)).kept (hk q.1 (hP _ q (at' k q h1)).lt (out k q h1))
    · exact hP1 i q h1
  · rcases sp i x hx with ⟨h1, e1⟩ | ⟨i1, h1, e1⟩ <;> rcases sp j y hy with ⟨h2, e2⟩ | ⟨j1, h2, e2⟩
    · have := hD.1 _ _ x y (at' i x h1) (at' j y h2) hxy
      omega
    · exact absurd (hD1.2 j1 y h2) (by rw [← hxy]; exact out i x h1)
    · exact absurd (hD1.2 i1 x h1) (by rw [hxy]; exact out j y h2)
    · have := hD1.1 i1 j1 x y h1 h2 hxy
      omega
  · rcases sp k q h with ⟨h1, -⟩ | ⟨i, h1, -⟩
    · exact hD.2 _ q (at' k q h1)
    · exact hF _ (hD1.2 i q h1)
theorem va_P_right {cl : List vw_C} (h : va_P D cl (a ++ b) H) : va_P D cl b H := fun k q hk => h (a.length + k) q (by rw [List.getElem?_append_right (by omega), Nat.add_sub_cancel_left]; exact hk)
theorem va_D_right (h : va_D A (a ++ b)) : va_D A b := ⟨fun i j x y hx hy hxy => by
    have := h.1 (a.length + i) (a.length + j) x y (by rw [List.getElem?_append_right (by omega), Nat.add_sub_cancel_left]; exact hx) (by rw [List.getElem?_append_right (by omega), Nat.add_sub_cancel_left]; exact hy) hxy
    omega, fun k q hk => h.2 (a.length + k) q (by rw [List.getElem?_append_right (by omega), Nat.add_sub_cancel_left]; exact hk)⟩
end ZJ

theorem TOK.le {a b : Int} {t : Nat → Int32} (h : TOK a t) (hb : b ≤ a) : TOK b t := fun k hk => h k (by omega)
set_option maxRecDepth 100000 in
set_option maxHeartbeats 4000000 in
def InvX (cI cM cT cJ cZ : ClassId) (x : Nat) (kc0 kc1 kc9 kc10 kc6 ki0 ki1 ki9 ki10 ki6 tl fu0 fp0 : Int) (bt : Nat → Int) (xw : va_W) : Prop := ∀ C9 : Prop, (∀ (st : Nat) (dr : Nat) (nw : Nat) (kp : Nat) (rd : Nat) (tm : Nat) (co : Nat) (s1 : Nat) (s2 : Nat) (s3 : Nat) (tA : Nat) (lW : Nat) (nA : Nat) (kA : Nat) (t0 : Nat) (cd_t0 : Nat) (lF_t0 : Nat) (lT_t0 : Nat) (cK_t0 : Nat) (cU_t0 : Nat) (t1 : Nat) (cd_t1 : Nat) (lF_t1 : Nat) (lT_t1 : Nat) (cK_t1 : Nat) (cU_t1 : Nat) (t2 : Nat) (cd_t2 : Nat) (lF_t2 : Nat) (lT_t2 : Nat) (cK_t2 : Nat) (cU_t2 : Nat) (t3 : Nat) (cd_t3 : Nat) (lF_t3 : Nat) (lT_t3 : Nat) (cK_t3 : Nat) (cU_t3 : Nat) (cd_lW : Nat) (lF_lW : Nat) (lT_lW : Nat) (cK_lW : Nat) (cU_lW : Nat) (rO : Nat) (sT : Nat) (mA : Nat) (sB : Nat) (sA : Nat) (tH : Nat) (tF : Nat) (tS : Nat) (mU : Nat) (bF : Nat) (bT : Nat) (cO : Nat) (sH : Nat) (iA : Nat) (rG : Nat) (rOk : Nat) (sTk : Nat) (mAk : Nat) (sBk : Nat) (sAk : Nat) (tHk : Nat) (tFk : Nat) (tSk : Nat) (mUk : Nat) (bFk : Nat) (bTk : Nat) (cOk : Nat) (sHk : Nat) (iAk : Nat) (rGk : Nat) (tP : Nat) (tX : Nat) (bY : Nat) (ki : Nat) (a_t : Nat) (nu : Nat) (bE : Nat) (oR : Nat) (ag : Int32) (sd : Int32) (ea : Int32) (ln_t0 : Int32) (cl_t0 : Int32) (ln_t1 : Int32) (cl_t1 : Int32) (ln_t2 : Int32) (cl_t2 : Int32) (ln_t3 : Int32) (cl_t3 : Int32) (ln_lW : Int32) (cl_lW : Int32) (sp : Int32) (tn : Int32) (ru : Int32) (se : Int32) (tr : Int32) (br : Int32) (ho : Int32) (in_ : Int32) (pl : Int32) (oa : Int32) (dv : Int32) (dy : Int32) (xx : Int32) (nx : Int32) (sz : Int32) (spk : Int32) (tnk : Int32) (ruk : Int32) (sek : Int32) (trk : Int32) (brk : Int32) (hok : Int32) (in_k : Int32) (plk : Int32) (oak : Int32) (dvk : Int32) (dyk : Int32) (xxk : Int32) (nxk : Int32) (szk : Int32) (fa : Int32) (fb : Int32) (tk : Int32) (kd : Int32) (nb : Int32) (le : Int32) (tks : Int32) (ts : Int32) (to_ : Int32) (fs1 : Nat → Int32) (fs2 : Nat → Int32) (fs3 : Nat → Int32) (fna : Nat → Int32) (fka : Nat → Int32) (tf : Nat → Option Nat) (fcd_t0 : Nat → Int32) (flf_t0 : Nat → Int32) (flt_t0 : Nat → Int32) (fck_t0 : Nat → Int32) (fcu_t0 : Nat → Int32) (fcd_t1 : Nat → Int32) (flf_t1 : Nat → Int32) (flt_t1 : Nat → Int32) (fck_t1 : Nat → Int32) (fcu_t1 : Nat → Int32) (fcd_t2 : Nat → Int32) (flf_t2 : Nat → Int32) (flt_t2 : Nat → Int32) (fck_t2 : Nat → Int32) (fcu_t2 : Nat → Int32) (fcd_t3 : Nat → Int32) (flf_t3 : Nat → Int32) (flt_t3 : Nat → Int32) (fck_t3 : Nat → Int32) (fcu_t3 : Nat → Int32) (fcd_lW : Nat → Int32) (flf_lW : Nat → Int32) (flt_lW : Nat → Int32) (fmu : Nat → Int32) (fbf : Nat → Int32) (fbt : Nat → Int32) (fco : Nat → Int32) (fsh : Nat → Int32) (fia : Nat → Int32) (fN : Nat → Option Nat) (fsa : Nat → Int32) (fth : Nat → Int32) (ftf : Nat → Int32) (fts : Nat → Int32) (fmuk : Nat → Int32) (fbfk : Nat → Int32) (fbtk : Nat → Int32) (fcok : Nat → Int32) (fshk : Nat → Int32) (fiak : Nat → Int32) (fNk : Nat → Option Nat) (fsak : Nat → Int32) (fthk : Nat → Int32) (ftfk : Nat → Int32) (ftsk : Nat → Int32) (fby : Nat → Int32) (fki : Nat → Int32) (fat : Nat → Int32) (fnu : Nat → Int32) (fbe : Nat → Int32) (for_ : Nat → Int32) (fco_ : Nat → Int32) (PL : va_W) (Ka : Nat → Prop) (Kb : Nat → Prop), xw = [(x, .inr (11, [.ref st, .ref dr, .ref nw, .ref kp, .ref rd, .ref tm, .ref co])), (st, .inr (6, [.ref dr, .ref s1, .ref s2, .ref s3, .int ag])), (s1, .inl (cI, 1800, .inl fs1)), (s2, .inl (cI, 1800, .inl fs2)), (s3, .inl (cI, 1800, .inl fs3)), (dr, .inr (0, [.ref nw, .ref tA, .ref lW, .ref nA, .ref kA, .int sd, .int ea])), (nA, .inl (cI, 8, .inl fna)), (kA, .inl (cI, 64, .inl fka)), (tA, .inl (cT, 4, .inr (.inr (.inr (.inr tf))))), (t0, .inr (9, [.ref cd_t0, .ref lF_t0, .ref lT_t0, .ref cK_t0, .ref cU_t0, .int ln_t0, .int cl_t0])), (cd_t0, .inl (cI, 300, .inl fcd_t0)), (lF_t0, .inl (cI, 4, .inl flf_t0)), (lT_t0, .inl (cI, 4, .inl flt_t0)), (cK_t0, .inl (cI, 24, .inl fck_t0)), (cU_t0, .inl (cI, 24, .inl fcu_t0)), (t1, .inr (9, [.ref cd_t1, .ref lF_t1, .ref lT_t1, .ref cK_t1, .ref cU_t1, .int ln_t1, .int cl_t1])), (cd_t1, .inl (cI, 300, .inl fcd_t1)), (lF_t1, .inl (cI, 4, .inl flf_t1)), (lT_t1, .inl (cI, 4, .inl flt_t1)), (cK_t1, .inl (cI, 24, .inl fck_t1)), (cU_t1, .inl (cI, 24, .inl fcu_t1)), (t2, .inr (9, [.ref cd_t2, .ref lF_t2, .ref lT_t2, .ref cK_t2, .ref cU_t2, .int ln_t2, .int cl_t2])), (cd_t2, .inl (cI, 300, .inl fcd_t2)), (lF_t2, .inl (cI, 4, .inl flf_t2)), (lT_t2, .inl (cI, 4, .inl flt_t2)), (cK_t2, .inl (cI, 24, .inl fck_t2)), (cU_t2, .inl (cI, 24, .inl fcu_t2)), (t3, .inr (9, [.ref cd_t3, .ref lF_t3, .ref lT_t3, .ref cK_t3, .ref cU_t3, .int ln_t3, .int cl_t3])), (cd_t3, .inl (cI, 300, .inl fcd_t3)), (lF_t3, .inl (cI, 4, .inl flf_t3)), (lT_t3, .inl (cI, 4, .inl flt_t3)), (cK_t3, .inl (cI, 24, .inl fck_t3)), (cU_t3, .inl (cI, 24, .inl fcu_t3)), (lW, .inr (9, [.ref cd_lW, .ref lF_lW, .ref lT_lW, .ref cK_lW, .ref cU_lW, .int ln_lW, .int cl_lW])), (cd_lW, .inl (cI, 300, .inl fcd_lW)), (lF_lW, .inl (cI, 4, .inl flf_lW)), (lT_lW, .inl (cI, 4, .inl flt_lW)), (nw, .inr (10, [.ref rO, .ref sT, .ref mA, .ref sB, .ref sA, .ref tH, .ref tF, .ref tS, .int sp, .int tn, .int ru, .int se, .int tr])), (rO, .inr (3, [.ref mU, .ref bF, .ref bT, .int br])), (mU, .inl (cI, 300, .inl fmu)), (bF, .inl (cI, 4, .inl fbf)), (bT, .inl (cI, 4, .inl fbt)), (sT, .inr (4, [.ref cO, .ref sH, .int ho])), (cO, .inl (cI, 6, .inl fco)), (sH, .inl (cI, 6, .inl fsh)), (mA, .inr (1, [.ref iA, .int in_, .int pl, .int oa, .int dv, .int dy, .int xx])), (iA, .inl (cI, 10, .inl fia)), (sB, .inr (5, [.ref rG, .int nx, .int sz])), (rG, .inl (cM, 30, .inr (.inr (.inr (.inr fN))))), (sA, .inl (cI, 6, .inl fsa)), (tH, .inl (cI, 10, .inl fth)), (tF, .inl (cI, 10, .inl ftf)), (tS, .inl (cI, 10, .inl fts)), (kp, .inr (10, [.ref rOk, .ref sTk, .ref mAk, .ref sBk, .ref sAk, .ref tHk, .ref tFk, .ref tSk, .int spk, .int tnk, .int ruk, .int sek, .int trk])), (rOk, .inr (3, [.ref mUk, .ref bFk, .ref bTk, .int brk])), (mUk, .inl (cI, 300, .inl fmuk)), (bFk, .inl (cI, 4, .inl fbfk)), (bTk, .inl (cI, 4, .inl fbtk)), (sTk, .inr (4, [.ref cOk, .ref sHk, .int hok])), (cOk, .inl (cI, 6, .inl fcok)), (sHk, .inl (cI, 6, .inl fshk)), (mAk, .inr (1, [.ref iAk, .int in_k, .int plk, .int oak, .int dvk, .int dyk, .int xxk])), (iAk, .inl (cI, 10, .inl fiak)), (sBk, .inr (5, [.ref rGk, .int nxk, .int szk])), (rGk, .inl (cM, 30, .inr (.inr (.inr (.inr fNk))))), (sAk, .inl (cI, 6, .inl fsak)), (tHk, .inl (cI, 10, .inl fthk)), (tFk, .inl (cI, 10, .inl ftfk)), (tSk, .inl (cI, 10, .inl ftsk)), (rd, .inr (2, [.ref tP, .int fa, .int fb, .int tk, .int kd, .int nb, .ref tX])), (tP, .inr (7, [.ref bY, .ref ki, .ref a_t, .ref nu, .int le, .int tks])), (bY, .inl (cI, 300, .inl fby)), (ki, .inl (cI, 301, .inl fki)), (a_t, .inl (cI, 301, .inl fat)), (nu, .inl (cI, 301, .inl fnu)), (tm, .inr (8, [.ref bE, .ref oR, .int ts, .int to_])), (bE, .inl (cI, 6, .inl fbe)), (oR, .inl (cI, 6, .inl for_)), (co, .inl (cI, 300, .inl fco_))] ++ PL → (Rng 0 299 1800 fs1) → ((0 ≤ sd.toInt ∧ sd.toInt ≤ 299)) → ((0 ≤ ln_t0.toInt ∧ ln_t0.toInt ≤ 300)) → ((0 ≤ cl_t0.toInt ∧ cl_t0.toInt ≤ 24)) → (Rng (-2147483648) 300 4 flt_t0) → ((0 ≤ ln_t1.toInt ∧ ln_t1.toInt ≤ 300)) → ((0 ≤ cl_t1.toInt ∧ cl_t1.toInt ≤ 24)) → (Rng (-2147483648) 300 4 flt_t1) → ((0 ≤ ln_t2.toInt ∧ ln_t2.toInt ≤ 300)) → ((0 ≤ cl_t2.toInt ∧ cl_t2.toInt ≤ 24)) → (Rng (-2147483648) 300 4 flt_t2) → ((0 ≤ ln_t3.toInt ∧ ln_t3.toInt ≤ 300)) → ((0 ≤ cl_t3.toInt ∧ cl_t3.toInt ≤ 24)) → (Rng (-2147483648) 300 4 flt_t3) → ((0 ≤ ln_lW.toInt ∧ ln_lW.toInt ≤ 300)) → ((0 ≤ cl_lW.toInt ∧ cl_lW.toInt ≤ 24)) → (Rng (-2147483648) 300 4 flt_lW) → ((0 ≤ tn.toInt ∧ tn.toInt ≤ 4)) → ((0 ≤ se.toInt ∧ se.toInt ≤ 6)) → ((0 ≤ tr.toInt ∧ tr.toInt ≤ 10)) → ((0 ≤ br.toInt ∧ br.toInt ≤ 4)) → (Rng 0 9 300 fmu) → (Rng 0 299 4 fbt) → ((0 ≤ ho.toInt ∧ ho.toInt ≤ 6)) → (Rng 0 99 6 fco) → (Rng 0 9 6 fsh) → ((0 ≤ in_.toInt ∧ in_.toInt ≤ 10)) → ((0 ≤ pl.toInt ∧ pl.toInt ≤ 299)) → (Rng 0 299 10 fia) → ((0 ≤ nx.toInt ∧ nx.toInt ≤ 29)) → (Rng 0 299 6 fsa) → (Rng 0 5 10 fth) → (Rng 0 299 10 ftf) → ((0 ≤ tnk.toInt ∧ tnk.toInt ≤ 4)) → ((0 ≤ sek.toInt ∧ sek.toInt ≤ 6)) → ((0 ≤ trk.toInt ∧ trk.toInt ≤ 10)) → ((0 ≤ brk.toInt ∧ brk.toInt ≤ 4)) → (Rng 0 9 300 fmuk) → (Rng 0 299 4 fbtk) → ((0 ≤ hok.toInt ∧ hok.toInt ≤ 6)) → (Rng 0 99 6 fcok) → (Rng 0 9 6 fshk) → ((0 ≤ in_k.toInt ∧ in_k.toInt ≤ 10)) → ((0 ≤ plk.toInt ∧ plk.toInt ≤ 299)) → (Rng 0 299 10 fiak) → ((0 ≤ nxk.toInt ∧ nxk.toInt ≤ 29)) → (Rng 0 299 6 fsak) → (Rng 0 5 10 fthk) → (Rng 0 299 10 ftfk) → ((0 ≤ tk.toInt ∧ tk.toInt ≤ 300)) → ((0 ≤ le.toInt ∧ le.toInt ≤ 300)) → ((0 ≤ tks.toInt ∧ tks.toInt ≤ 301)) → (Rng 0 255 300 fby) → ((0 ≤ ts.toInt ∧ ts.toInt ≤ 6)) → (tf 0 = some t0) → (tf 1 = some t1) → (tf 2 = some t2) → (tf 3 = some t3) → (RingOK cI fN 30 PL Ka) → (RingOK cI fNk 30 PL Kb) → ((∀ k, Ka k → ¬ Kb k)) → (ho.toInt = kc0) → (br.toInt = kc1) → (se.toInt = kc9) → (tr.toInt = kc10) → (tn.toInt = kc6) → (hok.toInt = ki0) → (brk.toInt = ki1) → (sek.toInt = ki9) → (trk.toInt = ki10) → (tnk.toInt = ki6) → (le.toInt = tl) → (fa.toInt = fu0) → (fb.toInt = fp0) → (bb le.toInt fby = bt) → C9) → C9
set_option maxRecDepth 100000 in
set_option maxHeartbeats 4000000 in
def InvM (cI cM cT cJ cZ : ClassId) (q : Nat) (kc0 kc1 kc9 kc10 kc6 ki0 ki1 ki9 ki10 ki6 tl fu0 fp0 : Int) (bt : Nat → Int) (mw : va_W) : Prop := ∀ C9 : Prop, (∀ (aA : Nat) (aI : Nat) (xT : Nat) (tP_ : Nat) (pI : Nat) (nm : Nat) (vL : Nat) (tR : Nat) (rW : Nat) (sP : Nat) (oT : Nat) (bS : Nat) (aS : Nat) (aO : Nat) (cS : Nat) (wY : Nat) (td : Int32) (fu : Int32) (fp : Int32) (at_ : Int32) (plc : Int32) (tok : Int32) (num : Int32) (wrd : Int64) (tx0 : Int32) (cls : Int32) (wri : Int32) (cam : Int32) (pid : Int32) (ope : Int32) (isw : Int32) (so0 : Int32) (onc : Int32) (spp : Int32) (eat : Int32) (ste : Int32) (fa : Nat → Int32) (fi : Nat → Int32) (fxt : Nat → Int32) (ftp : Nat → Int32) (fpi : Nat → Int32) (fnm : Nat → Int32) (fvl : Nat → Int64) (ftr : Nat → Int32) (frw : Nat → Int32) (fsp : Nat → Int32) (fot : Nat → Int32) (fbs : Nat → Int32) (fas : Nat → Int32) (fao : Nat → Int32) (fcs : Nat → Int32) (fwy : Nat → Int32), mw = [(q, .inr (12, [.ref aA, .ref aI, .ref xT, .ref tP_, .int td, .int fu, .int fp, .int at_, .int plc, .int tok, .int num, .long wrd, .int tx0, .int cls, .int wri, .int cam, .ref pI, .int pid, .int ope, .int isw, .int so0, .int onc, .ref nm, .ref vL, .ref tR, .int spp, .int eat, .int ste, .ref rW, .ref sP, .ref oT, .ref bS, .ref aS, .ref aO, .ref cS, .ref wY])), (aA, .inl (cI, 862, .inl fa)), (aI, .inl (cI, 862, .inl fi)), (xT, .inl (cI, 2720, .inl fxt)), (tP_, .inl (cI, 300, .inl ftp)), (pI, .inl (cI, 160, .inl fpi)), (nm, .inl (cI, 8, .inl fnm)), (vL, .inl (cJ, 330, .inr (.inl fvl))), (tR, .inl (cZ, 330, .inl ftr)), (rW, .inl (cI, 7, .inl frw)), (sP, .inl (cI, 7, .inl fsp)), (oT, .inl (cI, 7, .inl fot)), (bS, .inl (cI, 6, .inl fbs)), (aS, .inl (cI, 1800, .inl fas)), (aO, .inl (cI, 1800, .inl fao)), (cS, .inl (cI, 300, .inl fcs)), (wY, .inl (cI, 64, .inl fwy))] ++ [] → ((0 ≤ td.toInt ∧ td.toInt ≤ 300)) → ((0 ≤ spp.toInt ∧ spp.toInt ≤ 299)) → (AK kc0 kc1 kc6 kc9 kc10 fa) → (AK ki0 ki1 ki6 ki9 ki10 fi) → (TOK kc6 fxt) → (NK  fnm) → (Rng 0 299 7 fsp) → (Rng 0 299 1800 fas) → (ki6 ≤ kc6) → (td.toInt = tl) → (fu.toInt = fu0) → (fp.toInt = fp0) → (bb td.toInt ftp = bt) → C9) → C9
