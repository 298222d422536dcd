theorem dX1_copyFrom_0 : decode cX1_copyFrom 0 = .ok (.aload_n 1, 1) := by decide +kernel
theorem dX1_copyFrom_1 : decode cX1_copyFrom 1 = .ok (.getfield 9, 3) := by decide +kernel
theorem dX1_copyFrom_4 : decode cX1_copyFrom 4 = .ok (.iconst 0, 1) := by decide +kernel
theorem dX1_copyFrom_5 : decode cX1_copyFrom 5 = .ok (.aload_n 0, 1) := by decide +kernel
theorem dX1_copyFrom_6 : decode cX1_copyFrom 6 = .ok (.getfield 9, 3) := by decide +kernel
theorem dX1_copyFrom_9 : decode cX1_copyFrom 9 = .ok (.iconst 0, 1) := by decide +kernel
theorem dX1_copyFrom_10 : decode cX1_copyFrom 10 = .ok (.bipush 10, 2) := by decide +kernel
theorem dX1_copyFrom_12 : decode cX1_copyFrom 12 = .ok (.invokestatic 34, 3) := by decide +kernel
theorem dX1_copyFrom_15 : decode cX1_copyFrom 15 = .ok (.aload_n 0, 1) := by decide +kernel
theorem dX1_copyFrom_16 : decode cX1_copyFrom 16 = .ok (.aload_n 1, 1) := by decide +kernel
theorem dX1_copyFrom_17 : decode cX1_copyFrom 17 = .ok (.getfield 15, 3) := by decide +kernel
theorem dX1_copyFrom_20 : decode cX1_copyFrom 20 = .ok (.putfield 15, 3) := by decide +kernel
theorem dX1_copyFrom_23 : decode cX1_copyFrom 23 = .ok (.aload_n 0, 1) := by decide +kernel
theorem dX1_copyFrom_24 : decode cX1_copyFrom 24 = .ok (.aload_n 1, 1) := by decide +kernel
theorem dX1_copyFrom_25 : decode cX1_copyFrom 25 = .ok (.getfield 19, 3) := by decide +kernel
theorem dX1_copyFrom_28 : decode cX1_copyFrom 28 = .ok (.putfield 19, 3) := by decide +kernel
theorem dX1_copyFrom_31 : decode cX1_copyFrom 31 = .ok (.aload_n 0, 1) := by decide +kernel
theorem dX1_copyFrom_32 : decode cX1_copyFrom 32 = .ok (.aload_n 1, 1) := by decide +kernel
theorem dX1_copyFrom_33 : decode cX1_copyFrom 33 = .ok (.getfield 22, 3) := by decide +kernel
theorem dX1_copyFrom_36 : decode cX1_copyFrom 36 = .ok (.putfield 22, 3) := by decide +kernel
theorem dX1_copyFrom_39 : decode cX1_copyFrom 39 = .ok (.aload_n 0, 1) := by decide +kernel
theorem dX1_copyFrom_40 : decode cX1_copyFrom 40 = .ok (.aload_n 1, 1) := by decide +kernel
theorem dX1_copyFrom_41 : decode cX1_copyFrom 41 = .ok (.getfield 25, 3) := by decide +kernel
theorem dX1_copyFrom_44 : decode cX1_copyFrom 44 = .ok (.putfield 25, 3) := by decide +kernel
theorem dX1_copyFrom_47 : decode cX1_copyFrom 47 = .ok (.aload_n 0, 1) := by decide +kernel
theorem dX1_copyFrom_48 : decode cX1_copyFrom 48 = .ok (.aload_n 1, 1) := by decide +kernel
theorem dX1_copyFrom_49 : decode cX1_copyFrom 49 = .ok (.getfield 28, 3) := by decide +kernel
theorem dX1_copyFrom_52 : decode cX1_copyFrom 52 = .ok (.putfield 28, 3) := by decide +kernel
theorem dX1_copyFrom_55 : decode cX1_copyFrom 55 = .ok (.aload_n 0, 1) := by decide +kernel
theorem dX1_copyFrom_56 : decode cX1_copyFrom 56 = .ok (.aload_n 1, 1) := by decide +kernel
theorem dX1_copyFrom_57 : decode cX1_copyFrom 57 = .ok (.getfield 31, 3) := by decide +kernel
theorem dX1_copyFrom_60 : decode cX1_copyFrom 60 = .ok (.putfield 31, 3) := by decide +kernel
theorem dX1_copyFrom_63 : decode cX1_copyFrom 63 = .ok (.return_, 1) := by decide +kernel
theorem bw_187 : Cond.fieldLink "CountingHorses$Mail" 22 "CountingHorses$Mail" "oats" "I" ∈ BW := bw_at 187 (by decide +kernel) (by decide +kernel)
theorem bw_189 : Cond.fieldLink "CountingHorses$Mail" 25 "CountingHorses$Mail" "drives" "I" ∈ BW := bw_at 189 (by decide +kernel) (by decide +kernel)
theorem bw_191 : Cond.fieldLink "CountingHorses$Mail" 28 "CountingHorses$Mail" "day" "I" ∈ BW := bw_at 191 (by decide +kernel) (by decide +kernel)
theorem bw_524 : Cond.methodLink "CountingHorses$Mail" 34 ⟨"java/lang/System", "arraycopy", "(Ljava/lang/Object;ILjava/lang/Object;II)V"⟩ ∈ BW := bw_at 524 (by decide +kernel) (by decide +kernel)
def MI (x1 x2 : Int32) : Prop := (0 ≤ x1.toInt ∧ x1.toInt ≤ 10) ∧ (0 ≤ x2.toInt ∧ x2.toInt ≤ 299)
/-! ===== RINGS: the mails that a ring holds lie in a pool PL behind the world's own cells ===== -/
def RingOK (cI : ClassId) (f : Nat → Option Nat) (n : Nat) (PL : va_W) (Kp : Nat → Prop) : Prop := ∀ i, i < n → ∃ (r a : Nat) (x1 x2 x3 x4 x5 x6 : Int32) (g : Nat → Int32) (k1 k2 : Nat), f i = some r ∧ PL[k1]? = some (r, .inr (1, [.ref a, .int x1, .int x2, .int x3, .int x4, .int x5, .int x6])) ∧ PL[k2]? = some (a, .inl (cI, 10, .inl g)) ∧ Kp k1 ∧ Kp k2 ∧ MI x1 x2 ∧ Rng 0 299 10 g
theorem ring_0 {cI : ClassId} {f : Nat → Option Nat} {PL : va_W} {Kp : Nat → Prop} : RingOK cI f 0 PL Kp := fun i hi => absurd hi (Nat.not_lt_zero i)
theorem ring_push {cI : ClassId} {f : Nat → Option Nat} {n : Nat} {PL : va_W} {r a : Nat} {x1 x2 x3 x4 x5 x6 : Int32} {g : Nat → Int32} (hm : MI x1 x2) (hg : Rng 0 299 10 g) (h : RingOK cI f n PL (fun _ => True)) : RingOK cI (va_up f n (some r)) (n + 1) ((r, .inr (1, [.ref a, .int x1, .int x2, .int x3, .int x4, .int x5, .int x6])) :: (a, .inl (cI, 10, .inl g)) :: PL) (fun _ => True) := by
  intro i hi
  rcases Nat.lt_or_ge i n with q | q
  · obtain ⟨r0, a0, y1, y2, y3, y4, y5, y6, g0, k1, k2, e1, e2, e3, -, -, e4, e5⟩ := h i q
    exact ⟨r0, a0, y1, y2, y3, y4, y5, y6, g0, k1 + 2, k2 + 2, by rw [va_up_ne _ _ (by omega)]; exact e1, e2, e3, trivial, trivial, e4, e5⟩
  · obtain rfl : i = n := by omega
    exact ⟨r, a, x1, x2, x3, x4, x5, x6, g, 0, 1, va_up_self _ _ _, rfl, rfl, trivial, trivial, hm, hg⟩
theorem ring_right {cI : ClassId} {f : Nat → Option Nat} {n : Nat} {PL P1 : va_W} {Kp : Nat → Prop} (h : RingOK cI f n PL Kp) : RingOK cI f n (P1 ++ PL) (fun k => P1.length ≤ k) := by
  intro i hi
  obtain ⟨r0, a0, y1, y2, y3, y4, y5, y6, g0, k1, k2, e1, e2, e3, -, -, e4, e5⟩ := h i hi
  exact ⟨r0, a0, y1, y2, y3, y4, y5, y6, g0, P1.length + k1, P1.length + k2, e1, by rw [List.getElem?_append_right (by omega), Nat.add_sub_cancel_left]; exact e2, by rw [List.getElem?_append_right (by omega), Nat.add_sub_cancel_left]; exact e3, Nat.le_add_right _ _, Nat.le_add_right _ _, e4, e5⟩
theorem ring_left {cI : ClassId} {f : Nat → Option Nat} {n : Nat} {PL P2 : va_W} {Kp : Nat → Prop} (h : RingOK cI f n PL Kp) : RingOK cI f n (PL ++ P2) (fun k => k < PL.length) := by
  intro i hi
  obtain ⟨r0, a0, y1, y2, y3, y4, y5, y6, g0, k1, k2, e1, e2, e3, -, -, e4, e5⟩ := h i hi
  have l1 := (List.getElem?_eq_some_iff.mp e2).1
  have l2 := (List.getElem?_eq_some_iff.mp e3).1
  exact ⟨r0, a0, y1, y2, y3, y4, y5, y6, g0, k1, k2, e1, by rw [List.getElem?_append_left l1]; exact e2, by rw [List.getElem?_append_left l2]; exact e3, l1, l2, e4, e5⟩
theorem set_at {α : Type} {L : List α} {k j : Nat} {x y : α} (h : L[j]? = some x) : (L.set k y)[j]? = if j = k then some y else some x := by
  by_cases e : j = k
  · subst e
    rw [if_pos rfl, List.getElem?_set_self (List.getElem?_eq_some_iff.mp h).1]
  · rw [if_neg e, List.getElem?_set_ne (Ne.symm e)]; exact h
theorem ring_set {cI : ClassId} {f : Nat → Option Nat} {n : Nat} {PL : va_W} {Kp : Nat → Prop} {k1 k2 r a : Nat} {x1 x2 x3 x4 x5 x6 y1 y2 y3 y4 y5 y6 : Int32} {g g' : Nat → Int32} (hm : MI y1 y2) (hg : Rng 0 299 10 g') (h : RingOK cI f n PL Kp) (h1 : PL[k1]? = some (r, .inr (1, [.ref a, .int x1, .int x2, .int x3, .int x4, .int x5, .int x6]))) (h2 : PL[k2]? = some (a, .inl (cI, 10, .inl g))) :
    RingOK cI f n ((PL.set k1 (r, .inr (1, [.ref a, .int y1, .int y2, .int y3, .int y4, .int y5, .int y6]))).set k2 (a, .inl (cI, 10, .inl g'))) Kp := by
  intro i hi
  obtain ⟨r0, a0, z1, z2, z3, z4, z5, z6, g0, m1, m2, e1, e2, e3, q1, q2, q3, q4⟩ := h i hi
  have n1 : m1 ≠ k2 := fun e => by subst e; rw [h2] at e2; cases e2
  have n2 : m2 ≠ k1 := fun e => by subst e; rw [h1] at e3; cases e3
  have E2 : ∃ w1 w2 w3 w4 w5 w6 : Int32, ((PL.set k1 (r, .inr (1, [.ref a, .int y1, .int y2, .int y3, .int y4, .int y5, .int y6]))).set k2 (a, .inl (cI, 10, .inl g')))[m1]? = some (r0, .inr (1, [.ref a0, .int w1, .int w2, .int w3, .int w4, .int w5, .int w6])) ∧ MI w1 w2 := by
    rw [List.getElem?_set_ne (Ne.symm n1)]
    by_cases e : m1 = k1
    · subst e
      have e4 := h1.symm.trans e2
      injection e4 with e4
      injection e4 with e5 e6
      injection e6 with e6
      injection e6 with _ e6
      injection e6 with e6 _
      injection e6 with e6
      subst e5; subst e6
      exact ⟨y1, y2, y3, y4, y5, y6, List.getElem?_set_self (List.getElem?_eq_some_iff.mp h1).1, hm⟩
    · exact ⟨z1, z2, z3, z4, z5, z6, by rw [List.getElem?_set_ne (Ne.symm e)]; exact e2, q3⟩
  have E3 : ∃ w : Nat → Int32, ((PL.set k1 (r, .inr (1, [.ref a, .int y1, .int y2, .int y3, .int y4, .int y5, .int y6]))).set k2 (a, .inl (cI, 10, .inl g')))[m2]? = some (a0, .inl (cI, 10, .inl w)) ∧ Rng 0 299 10 w := by
    have e4 : (PL.set k1 (r, .inr (1, [.ref a, .int y1, .int y2, .int y3, .int y4, .int y5, .int y6])))[m2]? = some (a0, .inl (cI, 10, .inl g0)) := by rw [List.getElem?_set_ne (Ne.symm n2)]; exact e3
    rw [set_at e4]
    by_cases e : m2 = k2
    · subst e
      have e5 := h2.symm.trans e3
      injection e5 with e5
      injection e5 with e5 _
      subst e5
      exact ⟨g', by rw [if_pos rfl], hg⟩
    · exact ⟨g0, by rw [if_neg e], q4⟩
  obtain ⟨w1, w2, w3, w4, w5, w6, E2, r3⟩ := E2
  obtain ⟨w, E3, r4⟩ := E3
  exact ⟨r0, a0, w1, w2, w3, w4, w5, w6, w, m1, m2, e1, E2, E3, q1, q2, r3, r4⟩
/-- four cells out of a world, by their places -/
theorem pick4 {D : va_G} {A : Nat → Prop} {Wl : va_W} {H : Heap} {i1 i2 j1 j2 : Nat} {c1 c2 c3 c4 : Nat × va_E} (hP : va_P D vwCl Wl H) (hD : va_D A Wl) (h1 : Wl[i1]? = some c1) (h2 : Wl[i2]? = some c2) (h3 : Wl[j1]? = some c3) (h4 : Wl[j2]? = some c4) (hn : va_nd [i1, i2, j1, j2] = true) : va_P D vwCl [c1, c2, c3, c4] H ∧ va_D A [c1, c2, c3, c4] :=
  have hs : [i1, i2, j1, j2].map (fun i => Wl[i]?) = [c1, c2, c3, c4].map some := by simp only [List.map_cons, List.map_nil, h1, h2, h3, h4]
  ⟨hP.sub2 _ hs, hD.sub _ hn hs⟩
theorem nd4 {i1 i2 j1 j2 : Nat} (h : i1 ≠ i2 ∧ i1 ≠ j1 ∧ i1 ≠ j2 ∧ i2 ≠ j1 ∧ i2 ≠ j2 ∧ j1 ≠ j2) : va_nd [i1, i2, j1, j2] = true := by
  obtain ⟨a, b, c, d, e, f⟩ := h
  simp [va_nd, a, b, c, d, e, f]
/-- behind a call that changed two of four cells, in their places -/
theorem inpl4 {D : va_G} {A : Nat → Prop} {Wl : va_W} {H H1 : Heap} {i1 i2 j1 j2 r a sr sa : Nat} {er ea es et er' ea' : va_E} (hP : va_P D vwCl Wl H) (hD : va_D A Wl) (h1 : Wl[i1]? = some (r, er)) (h2 : Wl[i2]? = some (a, ea)) (h3 : Wl[j1]? = some (sr, es)) (h4 : Wl[j2]? = some (sa, et))
    (hk : ∀ q : Nat, q < H.size → ¬ va_A [(r, er), (a, ea), (sr, es), (sa, et)] H.size q → H1[q]? = H[q]?) (hP1 : va_P D vwCl [(r, er'), (a, ea'), (sr, es), (sa, et)] H1) : va_P D vwCl ((Wl.set i1 (r, er')).set i2 (a, ea')) H1 ∧ va_D A ((Wl.set i1 (r, er')).set i2 (a, ea')) := by
  have key : ∀ (k : Nat) (q' : Nat × va_E), ((Wl.set i1 (r, er')).set i2 (a, ea'))[k]? = some q' → ∃ q, Wl[k]? = some q ∧ q.1 = q'.1 ∧ va_at D vwCl q' H1 := by
    intro k q' hk'
    have hkl : k < Wl.length := by have := (List.getElem?_eq_some_iff.mp hk').1; simpa using this
    obtain ⟨q, hq⟩ : ∃ q, Wl[k]? = some q := ⟨_, List.getElem?_eq_some_iff.mpr ⟨hkl, rfl⟩⟩
    by_cases e2 : k = i2
    · subst e2
      rw [List.getElem?_set_self (by simpa using hkl)] at hk'
      cases hk'
      exact ⟨_, h2, rfl, hP1 1 _ rfl⟩
    · rw [List.getElem?_set_ne (Ne.symm e2)] at hk'
      by_cases e1 : k = i1
      · subst e1
        rw [List.getElem?_set_self hkl] at hk'
        cases hk'
        exact ⟨_, h1, rfl, hP1 0 _ rfl⟩
      · rw [List.getElem?_set_ne (Ne.symm e1)] at hk'
        refine ⟨q', hk', rfl, ?_⟩
        by_cases e3 : k = j1
        · subst e3
          rw [h3] at hk'; cases hk'
          exact hP1 2 _ rfl
        · by_cases e4 : k = j2
          · subst e4
            rw [h4] at hk'; cases hk'
            exact hP1 3 _ rfl
          · have hl := (hP k q' hk').lt
            refine (hP k q' hk').kept (hk q'.1 hl ?_)
            rintro (⟨j, ee, hj⟩ | hge)
            · match j, hj with
              | 0, hj => cases hj; exact e1 (hD.1 k i1 _ _ hk' h1 rfl)
              | 1, hj => cases hj; exact e2 (hD.1 k i2 _ _ hk' h2 rfl)
              | 2, hj => cases hj; exact e3 (hD.1 k j1 _ _ hk' h3 rfl)
              | 3, hj => cases hj; exact e4 (hD.1 k j2 _ _ hk' h4 rfl)
              | j + 4, hj => simp at hj
            · omega
  refine ⟨fun k q' hk' => (key k q' hk').choose_spec.2.2, fun i j x y hx hy hxy => ?_, fun k q' hk' => ?_⟩
  · obtain ⟨q, a1, a2, -⟩ := key i x hx
    obtain ⟨q2, b1, b2, -⟩ := key j y hy
    exact hD.1 i j q q2 a1 b1 (by rw [a2, b2, hxy])
  · obtain ⟨q, a1, a2, -⟩ := key k q' hk'
    rw [← a2]
    exact hD.2 k q a1
theorem app_at {X PL : va_W} {m k : Nat} {c : Nat × va_E} (hm : X.length = m) (h : PL[k]? = some c) : (X ++ PL)[m + k]? = some c := by
  rw [List.getElem?_append_right (by omega), ← hm, Nat.add_sub_cancel_left]; exact h
theorem app_set {X PL : va_W} {m k1 k2 : Nat} {c1 c2 : Nat × va_E} (hm : X.length = m) : ((X ++ PL).set (m + k1) c1).set (m + k2) c2 = X ++ (PL.set k1 c1).set k2 c2 := by
  subst hm
  rw [List.set_append_right _ _ (by omega), List.set_append_right _ _ (by omega), Nat.add_sub_cancel_left, Nat.add_sub_cancel_left]
theorem va_P_assoc {D : va_G} {cl : List vw_C} {a b c : va_W} {H : Heap} (h : va_P D cl ((a ++ b) ++ c) H) : va_P D cl (a ++ (b ++ c)) H := by rw [← List.append_assoc]; exact h
theorem va_D_assoc {A : Nat → Prop} {a b c : va_W} (h : va_D A ((a ++ b) ++ c)) : va_D A (a ++ (b ++ c)) := by rw [← List.append_assoc]; exact h
section ZP
variable {p : Program} {s : State} {m : MethodId} {args : Array Value} {meth : Method} {c : Code} {H : Heap} {locs : List Loc} {cc : ByteArray} {nL : Nat} {rt : Option FieldType} {D : va_G} {A : Nat → Prop} {tys : vw_Y} {own : String} {X wc wr pl : va_W}
theorem z_joinQ {u : va_W} {H1 : Heap} (Z : Zx p s m args meth c cc nL rt own A tys D) (hS : va_S A s.heap H locs) (hP : va_P D vwCl (X ++ pl) H) (hD : va_D A (X ++ pl)) (isC isR : List Nat) (hC : isC.map (fun i => X[i]?) = wc.map some) (hnC : va_nd isC = true) (hRr : isR.map (fun i => X[i]?) = wr.map some) (hn : va_nd isR = true) (hdis : ∀ i ∈ isR, i ∉ isC)
    (hk1 : ∀ q : Nat, q < H.size → ¬ va_A wc H.size q → H1[q]? = H[q]?) (hP1 : va_P D vwCl u H1) (hD1 : va_D (va_A wc H.size) u) : va_P D vwCl ((wr ++ u) ++ pl) H1 ∧ va_D A ((wr ++ u) ++ pl) :=
  va_joinQ hP hD isC isR hC hRr hn hdis hk1 (raw_free ((va_D_left hD).sub isC hnC hC) Z.2.2.2.2.2.2.2.1 hS) hP1 hD1
theorem z_joinP {rx pl1 : va_W} {H1 : Heap} (Z : Zx p s m args meth c cc nL rt own A tys D) (hS : va_S A s.heap H locs) (hP : va_P D vwCl (X ++ pl) H) (hD : va_D A (X ++ pl)) (isC isR : List Nat) (hC : isC.map (fun i => X[i]?) = wc.map some) (hnC : va_nd isC = true) (hRr : isR.map (fun i => X[i]?) = wr.map some) (hn : va_nd isR = true) (hdis : ∀ i ∈ isR, i ∉ isC)
    (hk1 : ∀ q : Nat, q < H.size → ¬ va_A (wc ++ pl) H.size q → H1[q]? = H[q]?) (hP1 : va_P D vwCl (rx ++ pl1) H1) (hD1 : va_D (va_A (wc ++ pl) H.size) (rx ++ pl1)) : va_P D vwCl ((wr ++ rx) ++ pl1) H1 ∧ va_D A ((wr ++ rx) ++ pl1) :=
  va_joinP hP hD isC isR hC hRr hn hdis hk1 (raw_free (hD.part isC hnC hC) Z.2.2.2.2.2.2.2.1 hS) hP1 hD1
theorem va_P_nil {H1 : Heap} : va_P D vwCl [] H1 := fun k q h => by simp at h
theorem va_D_nil {B : Nat → Prop} : va_D B [] := ⟨fun i j x y h => by simp at h, fun k q h => by simp at h⟩
end ZP

/-- what a change of a mail's cells keeps of every ring -/
def RKeep (cI : ClassId) (PL PL2 : va_W) : Prop := ∀ (f : Nat → Option Nat) (n : Nat) (K : Nat → Prop), RingOK cI f n PL K → RingOK cI f n PL2 K
theorem RKeep.rf {cI : ClassId} {PL : va_W} : RKeep cI PL PL := fun _ _ _ h => h
theorem RKeep.tr {cI : ClassId} {P1 P2 P3 : va_W} (h : RKeep cI P1 P2) (h2 : RKeep cI P2 P3) : RKeep cI P1 P3 := fun f n K h3 => h2 f n K (h f n K h3)
theorem RKeep.set {cI : ClassId} {PL : va_W} {k1 k2 r a : Nat} {x1 x2 x3 x4 x5 x6 y1 y2 y3 y4 y5 y6 : Int32} {g g' : Nat → Int32} (hm : MI y1 y2) (hg : Rng 0 299 10 g') (h1 : PL[k1]? = some (r, .inr (1, [.ref a, .int x1, .int x2, .int x3, .int x4, .int x5, .int x6]))) (h2 : PL[k2]? = some (a, .inl (cI, 10, .inl g))) : RKeep cI PL ((PL.set k1 (r, .inr (1, [.ref a, .int y1, .int y2, .int y3, .int y4, .int y5, .int y6]))).set k2 (a, .inl (cI, 10, .inl g'))) := fun _ _ _ h => ring_set hm hg h h1 h2
theorem zkind {PL : va_W} {k1 k2 r a : Nat} {o : Nat × List Value} {x : ClassId × vp_A} (e : k1 = k2) (h1 : PL[k1]? = some (r, .inr o)) (h2 : PL[k2]? = some (a, .inl x)) : False := by
  subst e
  rw [h1] at h2
  cases h2
theorem zsep {Ka Kb : Nat → Prop} (hab : ∀ k, Ka k → ¬ Kb k) {k t : Nat} (e : k = t) (h1 : Ka k) (h2 : Kb t) : False := hab k h1 (e ▸ h2)
theorem rem_tab : ∀ k, k < 100 → 0 ≤ ((nI k) - (nI k) / 30 * 30).toInt ∧ ((nI k) - (nI k) / 30 * 30).toInt ≤ 29 := by decide +kernel
theorem zrem30 {x : Int32} (h : 0 ≤ x.toInt ∧ x.toInt < 100) : 0 ≤ (x - x / 30 * 30).toInt ∧ (x - x / 30 * 30).toInt ≤ 29 := by
  obtain ⟨k, hk, rfl⟩ := nI_of (x := x) (by rw [Int32.lt_iff_toInt_lt, show (0 : Int32).toInt = 0 by decide]; omega)
  have e1 := nI_toInt hk
  exact rem_tab k (by omega)

set_option maxHeartbeats 4000000 in
set_option maxRecDepth 100000 in
theorem c_X1_copyFrom (l : Launch) (D : va_G) (cI cM cT cJ cZ : ClassId) (h : Nat) (a : Nat) (g : Nat) (b : Nat) (x1 : Int32) (x2 : Int32) (x3 : Int32) (x4 : Int32) (x5 : Int32) (x6 : Int32) (y1 : Int32) (y2 : Int32) (y3 : Int32) (y4 : Int32) (y5 : Int32) (y6 : Int32) (f1 : Nat → Int32) (f2 : Nat → Int32) : Cv l D (ty3 cI cM cT cJ cZ) yX1_copyFrom cX1_copyFrom 2 1 0 0 [.ref h, .ref g] ([(h, .inr (1, [.ref a, .int x1, .int x2, .int x3, .int x4, .int x5, .int x6])), (a, .inl (cI, 10, .inl f1)), (g, .inr (1, [.ref b, .int y1, .int y2, .int y3, .int y4, .int y5, .int y6])), (b, .inl (cI, 10, .inl f2))]) (fun u => u = [(h, .inr (1, [.ref a, .int y1, .int y2, .int y3, .int y4, .int y5, .int y6])), (a, .inl (cI, 10, .inl (va_cpy f2 f1 0 0 10))), (g, .inr (1, [.ref b, .int y1, .int y2, .int y3, .int y4, .int y5, .int y6])), (b, .inl (cI, 10, .inl f2))]) := by
  refine Cv.of (by decide +kernel) (Nat.le_of_ble_eq_true rfl) ?_
  intro p e s m below meth c A ls Z hin hP hD hl
  have hx := Z.1
  have hb := Z.2.1
  have hS : va_S A s.heap s.heap [] := va_S.rf
  have hl : lv_has ls 2 [(0, .ref h), (1, .ref g)] := hl
  skip
  refine lv_aload_n hx hb dX1_copyFrom_0 rfl (lv_at hl 1 rfl) ?_
  refine z_get Z i_X1 hP 2 rfl rfl 0 (by decide) bw_181 rfl dX1_copyFrom_1 ?_
  refine lv_iconst (v := 0) hx hb dX1_copyFrom_4 (by decide) ?_
  refine lv_aload_n hx hb dX1_copyFrom_5 rfl (lv_at hl 0 rfl) ?_
  refine z_get Z i_X1 hP 0 rfl rfl 0 (by decide) bw_181 rfl dX1_copyFrom_6 ?_
  refine lv_iconst (v := 0) hx hb dX1_copyFrom_9 (by decide) ?_
  refine lv_bipush (v := 10) hx hb dX1_copyFrom_10 (by decide) ?_
  refine va_copyi hx hb (Z.2.2.1.trans hl.1.symm) Z.2.2.2.1 (Z.2.2.2.2.1 _ bw_524) (Z.2.2.2.2.1 _ bw_526) (Z.2.2.2.2.1 _ bw_525) (Z.2.2.2.2.1 _ bw_93) Z.2.2.2.2.2.2.1 hP hD hS 3 1 0 0 rfl rfl rfl rfl rfl (by decide) (by decide) (by decide) (by decide) (by decide) (fun _ _ => rfl) (Nat.le_of_ble_eq_true rfl) (by decide +kernel) dX1_copyFrom_12 (fun H locs hP hD hS => ?_)
  have hP : va_P D vwCl ([(h, .inr (1, [.ref a, .int x1, .int x2, .int x3, .int x4, .int x5, .int x6])), (a, .inl (cI, 10, .inl (va_cpy f2 f1 0 0 10))), (g, .inr (1, [.ref b, .int y1, .int y2, .int y3, .int y4, .int y5, .int y6])), (b, .inl (cI, 10, .inl f2))]) H := hP
  have hD : va_D A ([(h, .inr (1, [.ref a, .int x1, .int x2, .int x3, .int x4, .int x5, .int x6])), (a, .inl (cI, 10, .inl (va_cpy f2 f1 0 0 10))), (g, .inr (1, [.ref b, .int y1, .int y2, .int y3, .int y4, .int y5, .int y6])), (b, .inl (cI, 10, .inl f2))]) := hD
  refine lv_aload_n hx hb dX1_copyFrom_15 rfl (lv_at hl 0 rfl) ?_
  refine lv_aload_n hx hb dX1_copyFrom_16 rfl (lv_at hl 1 rfl) ?_
  refine z_get Z i_X1 hP 2 rfl rfl 1 (by decide) bw_183 rfl dX1_copyFrom_17 ?_
  refine z_put Z i_X1 tyX1 tyX1_ok nmX1 hP hD hS 0 rfl rfl 1 (by decide) bw_183 rfl rfl rfl (Nat.le_of_ble_eq_true rfl) dX1_copyFrom_20 (fun H locs hP hD hS => ?_)
  have hP : va_P D vwCl ([(h, .inr (1, [.ref a, .int y1, .int x2, .int x3, .int x4, .int x5, .int x6])), (a, .inl (cI, 10, .inl (va_cpy f2 f1 0 0 10))), (g, .inr (1, [.ref b, .int y1, .int y2, .int y3, .int y4, .int y5, .int y6])), (b, .inl (cI, 10, .inl f2))]) H := hP
  have hD : va_D A ([(h, .inr (1, [.ref a, .int y1, .int x2, .int x3, .int x4, .int x5, .int x6])), (a, .inl (cI, 10, .inl (va_cpy f2 f1 0 0 10))), (g, .inr (1, [.ref b, .int y1, .int y2, .int y3, .int y4, .int y5, .int y6])), (b, .inl (cI, 10, .inl f2))]) := hD
  refine lv_aload_n hx hb dX1_copyFrom_23 rfl (lv_at hl 0 rfl) ?_
  refine lv_aload_n hx hb dX1_copyFrom_24 rfl (lv_at hl 1 rfl) ?_
  refine z_get Z i_X1 hP 2 rfl rfl 2 (by decide) bw_185 rfl dX1_copyFrom_25 ?_
  refine z_put Z i_X1 tyX1 tyX1_ok nmX1 hP hD hS 0 rfl rfl 2 (by decide) bw_185 rfl rfl rfl (Nat.le_of_ble_eq_true rfl) dX1_copyFrom_28 (fun H locs hP hD hS => ?_)
  have hP : va_P D vwCl ([(h, .inr (1, [.ref a, .int y1, .int y2, .int x3, .int x4, .int x5, .int x6])), (a, .inl (cI, 10, .inl (va_cpy f2 f1 0 0 10))), (g, .inr (1, [.ref b, .int y1, .int y2, .int y3, .int y4, .int y5, .int y6])), (b, .inl (cI, 10, .inl f2))]) H := hP
  have hD : va_D A ([(h, .inr (1, [.ref a, .int y1, .int y2, .int x3, .int x4, .int x5, .int x6])), (a, .inl (cI, 10, .inl (va_cpy f2 f1 0 0 10))), (g, .inr (1, [.ref b, .int y1, .int y2, .int y3, .int y4, .int y5, .int y6])), (b, .inl (cI, 10, .inl f2))]) := hD
  refine lv_aload_n hx hb dX1_copyFrom_31 rfl (lv_at hl 0 rfl) ?_
  refine lv_aload_n hx hb dX1_copyFrom_32 rfl (lv_at hl 1 rfl) ?_
  refine z_get Z i_X1 hP 2 rfl rfl 3 (by decide) bw_187 rfl dX1_copyFrom_33 ?_
  refine z_put Z i_X1 tyX1 tyX1_ok nmX1 hP hD hS 0 rfl rfl 3 (by decide) bw_187 rfl rfl rfl (Nat.le_of_ble_eq_true rfl) dX1_copyFrom_36 (fun H locs hP hD hS => ?_)
  have hP : va_P D vwCl ([(h, .inr (1, [.ref a, .int y1, .int y2, .int y3, .int x4, .int x5, .int x6])), (a, .inl (cI, 10, .inl (va_cpy f2 f1 0 0 10))), (g, .inr (1, [.ref b, .int y1, .int y2, .int y3, .int y4, .int y5, .int y6])), (b, .inl (cI, 10, .inl f2))]) H := hP
  have hD : va_D A ([(h, .inr (1, [.ref a, .int y1, .int y2, .int y3, .int x4, .int x5, .int x6])), (a, .inl (cI, 10, .inl (va_cpy f2 f1 0 0 10))), (g, .inr (1, [.ref b, .int y1, .int y2, .int y3, .int y4, .int y5, .int y6])), (b, .inl (cI, 10, .inl f2))]) := hD
  refine lv_aload_n hx hb dX1_copyFrom_39 rfl (lv_at hl 0 rfl) ?_
  refine lv_aload_n hx hb dX1_copyFrom_40 rfl (lv_at hl 1 rfl) ?_
  refine z_get Z i_X1 hP 2 rfl rfl 4 (by decide) bw_189 rfl dX1_copyFrom_41 ?_
  refine z_put Z i_X1 tyX1 tyX1_ok nmX1 hP hD hS 0 rfl rfl 4 (by decide) bw_189 rfl rfl rfl (Nat.le_of_ble_eq_true rfl) dX1_copyFrom_44 (fun H locs hP hD hS => ?_)
  have hP : va_P D vwCl ([(h, .inr (1, [.ref a, .int y1, .int y2, .int y3, .int y4, .int x5, .int x6])), (a, .inl (cI, 10, .inl (va_cpy f2 f1 0 0 10))), (g, .inr (1, [.ref b, .int y1, .int y2, .int y3, .int y4, .int y5, .int y6])), (b, .inl (cI, 10, .inl f2))]) H := hP
  have hD : va_D A ([(h, .inr (1, [.ref a, .int y1, .int y2, .int y3, .int y4, .int x5, .int x6])), (a, .inl (cI, 10, .inl (va_cpy f2 f1 0 0 10))), (g, .inr (1, [.ref b, .int y1, .int y2, .int y3, .int y4, .int y5, .int y6])), (b, .inl (cI, 10, .inl f2))]) := hD
  refine lv_aload_n hx hb dX1_copyFrom_47 rfl (lv_at hl 0 rfl) ?_
  refine lv_aload_n hx hb dX1_copyFrom_48 rfl (lv_at hl 1 rfl) ?_
  refine z_get Z i_X1 hP 2 rfl rfl 5 (by decide) bw_191 rfl dX1_copyFrom_49 ?_
  refine z_put Z i_X1 tyX1 tyX1_ok nmX1 hP hD hS 0 rfl rfl 5 (by decide) bw_191 rfl rfl rfl (Nat.le_of_ble_eq_true rfl) dX1_copyFrom_52 (fun H locs hP hD hS => ?_)
  have hP : va_P D vwCl ([(h, .inr (1, [.ref a, .int y1, .int y2, .int y3, .int y4, .int y5, .int x6])), (a, .inl (cI, 10, .inl (va_cpy f2 f1 0 0 10))), (g, .inr (1, [.ref b, .int y1, .int y2, .int y3, .int y4, .int y5, .int y6])), (b, .inl (cI, 10, .inl f2))]) H := hP
  have hD : va_D A ([(h, .inr (1, [.ref a, .int y1, .int y2, .int y3, .int y4, .int y5, .int x6])), (a, .inl (cI, 10, .inl (va_cpy f2 f1 0 0 10))), (g, .inr (1, [.ref b, .int y1, .int y2, .int y3, .int y4, .int y5, .int y6])), (b, .inl (cI, 10, .inl f2))]) := hD
  refine lv_aload_n hx hb dX1_copyFrom_55 rfl (lv_at hl 0 rfl) ?_
  refine lv_aload_n hx hb dX1_copyFrom_56 rfl (lv_at hl 1 rfl) ?_
  refine z_get Z i_X1 hP 2 rfl rfl 6 (by decide) bw_194 rfl dX1_copyFrom_57 ?_
  refine z_put Z i_X1 tyX1 tyX1_ok nmX1 hP hD hS 0 rfl rfl 6 (by decide) bw_194 rfl rfl rfl (Nat.le_of_ble_eq_true rfl) dX1_copyFrom_60 (fun H locs hP hD hS => ?_)
  have hP : va_P D vwCl ([(h, .inr (1, [.ref a, .int y1, .int y2, .int y3, .int y4, .int y5, .int y6])), (a, .inl (cI, 10, .inl (va_cpy f2 f1 0 0 10))), (g, .inr (1, [.ref b, .int y1, .int y2, .int y3, .int y4, .int y5, .int y6])), (b, .inl (cI, 10, .inl f2))]) H := hP
  have hD : va_D A ([(h, .inr (1, [.ref a, .int y1, .int y2, .int y3, .int y4, .int y5, .int y6])), (a, .inl (cI, 10, .inl (va_cpy f2 f1 0 0 10))), (g, .inr (1, [.ref b, .int y1, .int y2, .int y3, .int y4, .int y5, .int y6])), (b, .inl (cI, 10, .inl f2))]) := hD
  exact z_vret Z hP hD hS (rfl) dX1_copyFrom_63 (Nat.le_of_ble_eq_true rfl) (Nat.le_of_ble_eq_true rfl)
