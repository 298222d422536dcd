/-! ===== the reader's pile, as a list (the top first) ===== -/
def rk (e : Int) : Int := if 40 ≤ e then 0 else if e = 22 then 1 else if e = 21 then 2 else if e = 20 then 3 else if 10 ≤ e then 4 else if e = 2 then 7 else if 5 ≤ e then 6 else 5
def vA : List Int → Int
  | [] => 0
  | e :: L => vA L + (if (3 ≤ e ∧ e ≤ 6) ∨ (10 ≤ e ∧ e ≤ 15) ∨ e = 43 then 1 else 0)
def vT : List Int → Int
  | [] => 0
  | e :: L => vT L + (if e = 21 ∨ e = 22 ∨ e = 42 ∨ e = 43 then 1 else 0)
def vO : List Int → Int
  | [] => 0
  | e :: L => vO L + (if e = 2 ∨ e = 20 ∨ 40 ≤ e then 1 else 0)
def vK : List Int → Int
  | [] => 0
  | e :: L => if e = 41 then 1 else if 40 ≤ e then 0 else vK L
def vC : List Int → Int
  | [] => 0
  | e :: L => if 10 ≤ e ∧ e ≤ 15 then 1 else if (3 ≤ e ∧ e ≤ 6) ∨ e = 2 then vC L else 0
def vR : List Int → Int
  | [] => 0
  | e :: _ => rk e
def vM : List Int → Int
  | [] => -1
  | e :: L => if 40 ≤ e then e else vM L
def vX : List Int → Int
  | [] => -1
  | e :: L => if 40 ≤ e then (L.length : Int) else vX L
def okp (e : Int) (L : List Int) : Prop := (40 ≤ e ∧ e ≤ 43) ∨ e = 2 ∨ (3 ≤ e ∧ e ≤ 6 ∧ vR L < rk e) ∨ (10 ≤ e ∧ e ≤ 15 ∧ vK L = 1 ∧ vR L < 4) ∨ (e = 20 ∧ vK L = 1 ∧ vR L ≤ 3) ∨ (e = 21 ∧ vK L = 1 ∧ vR L < 2) ∨ (e = 22 ∧ vK L = 1 ∧ vR L < 1)
def PVal : List Int → Prop
  | [] => True
  | e :: L => PVal L ∧ okp e L
def Rep (f : Nat → Int32) : List Int → Prop
  | [] => True
  | e :: L => (f L.length).toInt = e ∧ Rep f L
theorem rk_m {e : Int} (h : 40 ≤ e) : rk e = 0 := by unfold rk; rw [if_pos h]
theorem rk_a {e : Int} (h : 3 ≤ e) (h2 : e ≤ 6) : 5 ≤ rk e ∧ rk e ≤ 6 := by
  unfold rk
  rw [if_neg (by omega), if_neg (by omega), if_neg (by omega), if_neg (by omega), if_neg (by omega), if_neg (by omega)]
  split <;> omega
theorem rk_c {e : Int} (h : 10 ≤ e) (h2 : e ≤ 15) : rk e = 4 := by
  unfold rk
  rw [if_neg (by omega), if_neg (by omega), if_neg (by omega), if_neg (by omega), if_pos (by omega)]
theorem rk_2 : rk 2 = 7 := by decide
theorem rk_20 : rk 20 = 3 := by decide
theorem rk_21 : rk 21 = 2 := by decide
theorem rk_22 : rk 22 = 1 := by decide
theorem rk_rng (e : Int) : 0 ≤ rk e ∧ rk e ≤ 7 := by
  unfold rk
  repeat' split
  all_goals omega
theorem vR_rng (L : List Int) : 0 ≤ vR L ∧ vR L ≤ 7 := by
  cases L with
  | nil => exact ⟨by decide, by decide⟩
  | cons e L => exact rk_rng e
theorem v_nn : ∀ L : List Int, 0 ≤ vA L ∧ 0 ≤ vT L ∧ 0 ≤ vO L := by
  intro L
  induction L with
  | nil => exact ⟨by decide, by decide, by decide⟩
  | cons e L ih =>
    simp only [vA, vT, vO]
    refine ⟨?_, ?_, ?_⟩ <;> split <;> omega
theorem pl_len : ∀ L : List Int, PVal L → (L.length : Int) ≤ 8 * vO L + vR L := by
  intro L
  induction L with
  | nil => intro _; decide
  | cons e L ih =>
    intro h
    have h1 := ih h.1
    have h2 := vR_rng L
    have hl : ((e :: L).length : Int) = (L.length : Int) + 1 := by simp
    rw [hl]
    show (L.length : Int) + 1 ≤ 8 * (vO L + (if e = 2 ∨ e = 20 ∨ 40 ≤ e then 1 else 0)) + rk e
    rcases h.2 with q | q | q | q | q | q | q
    · rw [rk_m q.1, if_pos (by omega)]; omega
    · subst q; rw [rk_2, if_pos (by omega)]; omega
    · rw [if_neg (by omega)]; omega
    · have := rk_c q.1 q.2.1; rw [if_neg (by omega)]; omega
    · obtain ⟨rfl, q1, q2⟩ := q; rw [rk_20, if_pos (by omega)]; omega
    · obtain ⟨rfl, q1, q2⟩ := q; rw [rk_21, if_neg (by omega)]; omega
    · obtain ⟨rfl, q1, q2⟩ := q; rw [rk_22, if_neg (by omega)]; omega
theorem Rep_up {f : Nat → Int32} {v : Int32} : ∀ {L : List Int} {k : Nat}, L.length ≤ k → Rep f L → Rep (upd f k v) L := by
  intro L
  induction L with
  | nil => intro k _ _; trivial
  | cons e L ih =>
    intro k hk h
    have hl : L.length + 1 ≤ k := by simpa using hk
    exact ⟨by rw [pk_un (by omega)]; exact h.1, ih (by omega) h.2⟩
theorem Rep.push {f : Nat → Int32} {v : Int32} {L : List Int} {k : Nat} (hk : k = L.length) (h : Rep f L) : Rep (upd f k v) (v.toInt :: L) := by
  subst hk
  exact ⟨by rw [pk_us], Rep_up (Nat.le_refl _) h⟩
/-- the marker's entry -/
theorem Rep.mark {f : Nat → Int32} : ∀ {L : List Int}, Rep f L → 0 ≤ vX L → (f (vX L).toNat).toInt = vM L ∧ 40 ≤ vM L ∧ vX L < (L.length : Int) := by
  intro L
  induction L with
  | nil => intro _ h; exact absurd h (by decide)
  | cons e L ih =>
    intro h h0
    have hl : ((e :: L).length : Int) = (L.length : Int) + 1 := by simp
    simp only [vX, vM] at h0 ⊢
    by_cases q : 40 ≤ e
    · rw [if_pos q, if_pos q, hl]
      refine ⟨?_, q, by omega⟩
      rw [Int.toNat_natCast]; exact h.1
    · rw [if_neg q] at h0 ⊢
      rw [if_neg q, hl]
      obtain ⟨a1, a2, a3⟩ := ih h.2 h0
      exact ⟨a1, a2, by omega⟩
theorem vX_ge : ∀ L : List Int, -1 ≤ vX L := by
  intro L
  induction L with
  | nil => decide
  | cons e L ih => simp only [vX]; split <;> omega
theorem vM_none : ∀ {L : List Int}, vX L < 0 → vM L = -1 ∧ vK L = 0 := by
  intro L
  induction L with
  | nil => intro _; exact ⟨rfl, rfl⟩
  | cons e L ih =>
    intro h
    simp only [vX] at h
    by_cases q : 40 ≤ e
    · rw [if_pos q] at h; omega
    · rw [if_neg q] at h
      simp only [vM, vK]
      rw [if_neg q, if_neg (by omega), if_neg q]
      exact ih h
theorem vM_K : ∀ {L : List Int}, (vM L = 41 ↔ vK L = 1) := by
  intro L
  induction L with
  | nil => constructor <;> intro h <;> exact absurd h (by decide)
  | cons e L ih =>
    simp only [vM, vK]
    by_cases q : 40 ≤ e
    · rw [if_pos q]
      by_cases q2 : e = 41
      · rw [if_pos q2]; omega
      · rw [if_neg q2, if_pos q]; omega
    · rw [if_neg q, if_neg (by omega), if_neg q]
      exact ih
theorem vM_or : ∀ {L : List Int}, PVal L → vM L = -1 ∨ (40 ≤ vM L ∧ vM L ≤ 43) := by
  intro L
  induction L with
  | nil => intro _; exact Or.inl rfl
  | cons e L ih =>
    intro h
    simp only [vM]
    by_cases q : 40 ≤ e
    · rw [if_pos q]; right
      rcases h.2 with a | a | a | a | a | a | a <;> omega
    · rw [if_neg q]; exact ih h.1
/-- the segment above a marker that doesn't ask holds sums alone; behind settle(1) the marker is on top -/
theorem top_mark {L : List Int} (h : PVal L) (h0 : vR L < 1) : L = [] ∨ ∃ e L2, L = e :: L2 ∧ 40 ≤ e ∧ e ≤ 43 := by
  cases L with
  | nil => exact Or.inl rfl
  | cons e L2 =>
    right
    refine ⟨e, L2, rfl, ?_⟩
    have h1 : rk e < 1 := h0
    rcases h.2 with q | q | q | q | q | q | q
    · exact q
    · subst q; rw [rk_2] at h1; omega
    · have := rk_a q.1 q.2.1; omega
    · have := rk_c q.1 q.2.1; omega
    · obtain ⟨rfl, q1, q2⟩ := q; rw [rk_20] at h1; omega
    · obtain ⟨rfl, q1, q2⟩ := q; rw [rk_21] at h1; omega
    · obtain ⟨rfl, q1, q2⟩ := q; rw [rk_22] at h1; omega
/-- what a settling keeps: the pile's values and truths, and which of the two the operand is -/
def BA (td : Int) (f : Nat → Int32) (k : Int) : Int := if k < td then (f k.toNat).toInt else -1

theorem list_cons {L : List Int} (h : 0 < L.length) : ∃ e L2, L = e :: L2 := by
  cases L with
  | nil => simp at h
  | cons e L2 => exact ⟨e, L2, rfl⟩
theorem rk_lt40 {e : Int} (h : 1 ≤ rk e) : e < 40 := by
  by_cases q : 40 ≤ e
  · rw [rk_m q] at h; omega
  · omega
theorem seg_pop {e : Int} {L : List Int} (h : 1 ≤ rk e) : vK (e :: L) = vK L ∧ vM (e :: L) = vM L ∧ vX (e :: L) = vX L := by
  have q := rk_lt40 h
  refine ⟨?_, ?_, ?_⟩
  · show (if e = 41 then 1 else if 40 ≤ e then 0 else vK L) = vK L; rw [if_neg (by omega), if_neg (by omega)]
  · show (if 40 ≤ e then e else vM L) = vM L; rw [if_neg (by omega)]
  · show (if 40 ≤ e then (L.length : Int) else vX L) = vX L; rw [if_neg (by omega)]
theorem vO_1 {e : Int} {L : List Int} (h : e = 2 ∨ e = 20) : vO (e :: L) = vO L + 1 := by
  show vO L + (if e = 2 ∨ e = 20 ∨ 40 ≤ e then 1 else 0) = vO L + 1; rw [if_pos (by omega)]
theorem vO_m {e : Int} {L : List Int} (h : 40 ≤ e) : vO (e :: L) = vO L + 1 := by
  show vO L + (if e = 2 ∨ e = 20 ∨ 40 ≤ e then 1 else 0) = vO L + 1; rw [if_pos (by omega)]
theorem vO_0 {e : Int} {L : List Int} (h : e ≠ 2 ∧ e ≠ 20) (h2 : e < 40) : vO (e :: L) = vO L := by
  show vO L + (if e = 2 ∨ e = 20 ∨ 40 ≤ e then 1 else 0) = vO L; rw [if_neg (by omega)]; omega
theorem vA_m {e : Int} {L : List Int} (h : 40 ≤ e ∧ e ≤ 42) : vA (e :: L) = vA L := by
  show vA L + (if (3 ≤ e ∧ e ≤ 6) ∨ (10 ≤ e ∧ e ≤ 15) ∨ e = 43 then 1 else 0) = vA L; rw [if_neg (by omega)]; omega
theorem vA_43 {L : List Int} : vA (43 :: L) = vA L + 1 := by
  show vA L + (if ((3 : Int) ≤ 43 ∧ (43 : Int) ≤ 6) ∨ ((10 : Int) ≤ 43 ∧ (43 : Int) ≤ 15) ∨ (43 : Int) = 43 then 1 else 0) = vA L + 1; rw [if_pos (by omega)]
theorem vA_b {e : Int} {L : List Int} (h : (3 ≤ e ∧ e ≤ 6) ∨ (10 ≤ e ∧ e ≤ 15)) : vA (e :: L) = vA L + 1 := by
  show vA L + (if (3 ≤ e ∧ e ≤ 6) ∨ (10 ≤ e ∧ e ≤ 15) ∨ e = 43 then 1 else 0) = vA L + 1; rw [if_pos (by omega)]
theorem vA_u {e : Int} {L : List Int} (h : e = 2 ∨ (20 ≤ e ∧ e ≤ 22)) : vA (e :: L) = vA L := by
  show vA L + (if (3 ≤ e ∧ e ≤ 6) ∨ (10 ≤ e ∧ e ≤ 15) ∨ e = 43 then 1 else 0) = vA L; rw [if_neg (by omega)]; omega
theorem vT_0 {e : Int} {L : List Int} (h : e ≤ 20 ∨ e = 40 ∨ e = 41) : vT (e :: L) = vT L := by
  show vT L + (if e = 21 ∨ e = 22 ∨ e = 42 ∨ e = 43 then 1 else 0) = vT L; rw [if_neg (by omega)]; omega
theorem vT_1 {e : Int} {L : List Int} (h : e = 21 ∨ e = 22 ∨ e = 42 ∨ e = 43) : vT (e :: L) = vT L + 1 := by
  show vT L + (if e = 21 ∨ e = 22 ∨ e = 42 ∨ e = 43 then 1 else 0) = vT L + 1; rw [if_pos h]
theorem vC_s {e : Int} {L : List Int} (h : PVal (e :: L)) (hr : 4 < rk e) : vC (e :: L) = vC L := by
  have q := rk_lt40 (e := e) (by omega)
  show (if 10 ≤ e ∧ e ≤ 15 then 1 else if (3 ≤ e ∧ e ≤ 6) ∨ e = 2 then vC L else 0) = vC L
  rcases h.2 with a | a | a | a | a | a | a
  · omega
  · rw [if_neg (by omega), if_pos (by omega)]
  · rw [if_neg (by omega), if_pos (by omega)]
  · have := rk_c a.1 a.2.1; omega
  · obtain ⟨rfl, -, -⟩ := a; rw [rk_20] at hr; omega
  · obtain ⟨rfl, -, -⟩ := a; rw [rk_21] at hr; omega
  · obtain ⟨rfl, -, -⟩ := a; rw [rk_22] at hr; omega

/-! ===== the tokens of a tape: b is its bytes, less than 0 from its end on ===== -/
abbrev isBl (c : Int) : Prop := c = 32 ∨ c = 10
abbrev isLe (c : Int) : Prop := (97 ≤ c ∧ c ≤ 122) ∨ (65 ≤ c ∧ c ≤ 90)
abbrev isDi (c : Int) : Prop := 48 ≤ c ∧ c ≤ 57
def pB (c : Int) : Bool := decide (isBl c)
def pL (c : Int) : Bool := decide (isLe c)
def pD (c : Int) : Bool := decide (isDi c)
theorem pB_t {c : Int} (h : isBl c) : pB c = true := decide_eq_true h
theorem pB_f {c : Int} (h : ¬ isBl c) : pB c = false := decide_eq_false h
theorem pL_t {c : Int} (h : isLe c) : pL c = true := decide_eq_true h
theorem pL_f {c : Int} (h : ¬ isLe c) : pL c = false := decide_eq_false h
theorem pD_t {c : Int} (h : isDi c) : pD c = true := decide_eq_true h
theorem pD_f {c : Int} (h : ¬ isDi c) : pD c = false := decide_eq_false h
def sp (P : Int → Bool) (b : Nat → Int) : Nat → Nat → Nat
  | 0, p => p
  | k + 1, p => if P (b p) = true then sp P b k (p + 1) else p
theorem sp_eq {P : Int → Bool} {b : Nat → Int} : ∀ (k p q : Nat), p ≤ q → q - p < k → (∀ j, p ≤ j → j < q → P (b j) = true) → P (b q) = false → sp P b k p = q := by
  intro k
  induction k with
  | zero => intro p q _ h; exact absurd h (Nat.not_lt_zero _)
  | succ k ih =>
    intro p q h1 h2 h3 h4
    by_cases e : p = q
    · subst e
      show (if P (b p) = true then sp P b k (p + 1) else p) = p
      rw [if_neg (by rw [h4]; decide)]
    · show (if P (b p) = true then sp P b k (p + 1) else p) = q
      rw [if_pos (h3 p (Nat.le_refl _) (by omega))]
      exact ih (p + 1) q (by omega) (by omega) (fun j a c => h3 j (by omega) c) h4
def tend (b : Nat → Int) (p : Nat) : Nat := if isDi (b p) then sp pD b 302 p else if isLe (b p) then sp pL b 302 p else if (b p = 60 ∨ b p = 62) ∧ b (p + 1) = 61 then p + 2 else p + 1
def nxt (b : Nat → Int) (p : Nat) : Nat := sp pB b 302 (tend b p)
def nva (b : Nat → Int) (p : Nat) : Nat → Int
  | 0 => 0
  | k + 1 => if 10000 < 10 * nva b p k + b (p + k) - 48 then 10000 else 10 * nva b p k + b (p + k) - 48
def nbr (b : Nat → Int) (p : Nat) : Int := nva b p (sp pD b 302 p - p)
/-- the bytes of a word, the last one first -/
def wdr (b : Nat → Int) (p : Nat) : Nat → List Int
  | 0 => []
  | k + 1 => b (p + k) :: wdr b p k
def pkr : List Int → Int
  | [] => 0
  | c :: l => 256 * pkr l + c
def kindL (l : List Int) : Int :=
  if l = [115, 112, 101, 116, 115] then 1 else
  if l = [101, 100, 105, 114, 116, 115] then 2 else
  if l = [115, 116, 97, 111] then 3 else
  if l = [101, 118, 105, 114, 100] then 4 else
  if l = [115, 115, 97, 112] then 5 else
  if l = [102, 105] then 6 else
  if l = [100, 110, 101] then 7 else
  if l = [114, 111] then 8 else
  if l = [100, 110, 97] then 9 else
  if l = [116, 111, 110] then 10 else
  if l = [101, 115, 114, 111, 104] then 11 else
  if l = [116, 110, 117, 111, 99] then 12 else
  if l = [101, 111, 104, 115] then 13 else
  if l = [121, 97, 100] then 14 else
  if l = [100, 117, 109] then 15 else
  if l = [101, 99, 97, 108, 112] then 16 else
  if l = [112, 101, 116, 115] then 17 else
  if l = [101, 110, 111, 103] then 18 else 38
def kindS (c d : Int) : Int := if c = 60 then (if d = 61 then 34 else 21) else if c = 62 then (if d = 61 then 35 else 22) else if c = 61 then 23 else if c = 35 then 24 else if c = 43 then 25 else if c = 45 then 26 else if c = 42 then 27 else if c = 47 then 28 else if c = 40 then 29 else if c = 41 then 30 else if c = 59 then 31 else if c = 63 then 32 else if c = 58 then 33 else 38
def kdr (b : Nat → Int) (p : Nat) : Int := if b p < 0 then 37 else if isDi (b p) then 36 else if isLe (b p) then kindL (wdr b p (sp pL b 302 p - p)) else kindS (b p) (b (p + 1))
theorem pkr_nn : ∀ l : List Int, (∀ c, c ∈ l → 1 ≤ c ∧ c ≤ 255) → 0 ≤ pkr l := by
  intro l
  induction l with
  | nil => intro _; exact Int.le_refl _
  | cons c l ih =>
    intro h
    have h1 := h c (List.mem_cons_self ..)
    have h2 := ih (fun x hx => h x (List.mem_cons_of_mem _ hx))
    show 0 ≤ 256 * pkr l + c
    omega
theorem pkr_inj : ∀ l m : List Int, (∀ c, c ∈ l → 1 ≤ c ∧ c ≤ 255) → (∀ c, c ∈ m → 1 ≤ c ∧ c ≤ 255) → pkr l = pkr m → l = m := by
  intro l
  induction l with
  | nil =>
    intro m _ hm e
    cases m with
    | nil => rfl
    | cons d m =>
      have h1 := hm d (List.mem_cons_self ..)
      have h2 := pkr_nn m (fun x hx => hm x (List.mem_cons_of_mem _ hx))
      have e2 : (0 : Int) = 256 * pkr m + d := e
      omega
  | cons c l ih =>
    intro m hl hm e
    have h1 := hl c (List.mem_cons_self ..)
    have h2 := pkr_nn l (fun x hx => hl x (List.mem_cons_of_mem _ hx))
    cases m with
    | nil =>
      have e2 : 256 * pkr l + c = (0 : Int) := e
      omega
    | cons d m =>
      have h3 := hm d (List.mem_cons_self ..)
      have h4 := pkr_nn m (fun x hx => hm x (List.mem_cons_of_mem _ hx))
      have e2 : 256 * pkr l + c = 256 * pkr m + d := e
      have e3 : c = d := by omega
      have e4 : pkr l = pkr m := by omega
      rw [e3, ih m (fun x hx => hl x (List.mem_cons_of_mem _ hx)) (fun x hx => hm x (List.mem_cons_of_mem _ hx)) e4]
def kindT (t : Int) : Int := if t = 60 then 21 else if t = 62 then 22 else if t = 61 then 23 else if t = 35 then 24 else if t = 43 then 25 else if t = 45 then 26 else if t = 42 then 27 else if t = 47 then 28 else if t = 40 then 29 else if t = 41 then 30 else if t = 59 then 31 else if t = 63 then 32 else if t = 58 then 33 else if t = 4 then 34 else if t = 5 then 35 else 38
def wk (k : Int) : List Int :=
  if k = 1 then [115, 112, 101, 116, 115] else
  if k = 2 then [101, 100, 105, 114, 116, 115] else
  if k = 3 then [115, 116, 97, 111] else
  if k = 4 then [101, 118, 105, 114, 100] else
  if k = 5 then [115, 115, 97, 112] else
  if k = 6 then [102, 105] else
  if k = 7 then [100, 110, 101] else
  if k = 8 then [114, 111] else
  if k = 9 then [100, 110, 97] else
  if k = 10 then [116, 111, 110] else
  if k = 11 then [101, 115, 114, 111, 104] else
  if k = 12 then [116, 110, 117, 111, 99] else
  if k = 13 then [101, 111, 104, 115] else
  if k = 14 then [121, 97, 100] else
  if k = 15 then [100, 117, 109] else
  if k = 16 then [101, 99, 97, 108, 112] else
  if k = 17 then [112, 101, 116, 115] else
  if k = 18 then [101, 110, 111, 103] else []
theorem kindL_inv (l : List Int) : kindL l = 38 ∨ (1 ≤ kindL l ∧ kindL l ≤ 18 ∧ l = wk (kindL l)) := by
  by_cases h1 : l = [115, 112, 101, 116, 115]
  · subst h1; exact Or.inr ⟨by decide, by decide, by decide⟩
  by_cases h2 : l = [101, 100, 105, 114, 116, 115]
  · subst h2; exact Or.inr ⟨by decide, by decide, by decide⟩
  by_cases h3 : l = [115, 116, 97, 111]
  · subst h3; exact Or.inr ⟨by decide, by decide, by decide⟩
  by_cases h4 : l = [101, 118, 105, 114, 100]
  · subst h4; exact Or.inr ⟨by decide, by decide, by decide⟩
  by_cases h5 : l = [115, 115, 97, 112]
  · subst h5; exact Or.inr ⟨by decide, by decide, by decide⟩
  by_cases h6 : l = [102, 105]
  · subst h6; exact Or.inr ⟨by decide, by decide, by decide⟩
  by_cases h7 : l = [100, 110, 101]
  · subst h7; exact Or.inr ⟨by decide, by decide, by decide⟩
  by_cases h8 : l = [114, 111]
  · subst h8; exact Or.inr ⟨by decide, by decide, by decide⟩
  by_cases h9 : l = [100, 110, 97]
  · subst h9; exact Or.inr ⟨by decide, by decide, by decide⟩
  by_cases h10 : l = [116, 111, 110]
  · subst h10; exact Or.inr ⟨by decide, by decide, by decide⟩
  by_cases h11 : l = [101, 115, 114, 111, 104]
  · subst h11; exact Or.inr ⟨by decide, by decide, by decide⟩
  by_cases h12 : l = [116, 110, 117, 111, 99]
  · subst h12; exact Or.inr ⟨by decide, by decide, by decide⟩
  by_cases h13 : l = [101, 111, 104, 115]
  · subst h13; exact Or.inr ⟨by decide, by decide, by decide⟩
  by_cases h14 : l = [121, 97, 100]
  · subst h14; exact Or.inr ⟨by decide, by decide, by decide⟩
  by_cases h15 : l = [100, 117, 109]
  · subst h15; exact Or.inr ⟨by decide, by decide, by decide⟩
  by_cases h16 : l = [101, 99, 97, 108, 112]
  · subst h16; exact Or.inr ⟨by decide, by decide, by decide⟩
  by_cases h17 : l = [112, 101, 116, 115]
  · subst h17; exact Or.inr ⟨by decide, by decide, by decide⟩
  by_cases h18 : l = [101, 110, 111, 103]
  · subst h18; exact Or.inr ⟨by decide, by decide, by decide⟩
  left
  unfold kindL
  rw [if_neg h1, if_neg h2, if_neg h3, if_neg h4, if_neg h5, if_neg h6, if_neg h7, if_neg h8, if_neg h9, if_neg h10, if_neg h11, if_neg h12, if_neg h13, if_neg h14, if_neg h15, if_neg h16, if_neg h17, if_neg h18]
theorem wk_ok {k : Int} (h : 1 ≤ k ∧ k ≤ 18) : (∀ c, c ∈ wk k → 1 ≤ c ∧ c ≤ 255) ∧ (wk k).length ≤ 7 ∧ kindL (wk k) = k ∧ pkr (wk k) ≠ 0 := by
  have : k = 1 ∨ k = 2 ∨ k = 3 ∨ k = 4 ∨ k = 5 ∨ k = 6 ∨ k = 7 ∨ k = 8 ∨ k = 9 ∨ k = 10 ∨ k = 11 ∨ k = 12 ∨ k = 13 ∨ k = 14 ∨ k = 15 ∨ k = 16 ∨ k = 17 ∨ k = 18 := by omega
  rcases this with rfl | rfl | rfl | rfl | rfl | rfl | rfl | rfl | rfl | rfl | rfl | rfl | rfl | rfl | rfl | rfl | rfl | rfl <;> exact ⟨by decide, by decide, by decide, by decide⟩
def sgk (k : Int) : Int := if k = 21 then 60 else if k = 22 then 62 else if k = 23 then 61 else if k = 24 then 35 else if k = 25 then 43 else if k = 26 then 45 else if k = 27 then 42 else if k = 28 then 47 else if k = 29 then 40 else if k = 30 then 41 else if k = 31 then 59 else if k = 32 then 63 else if k = 33 then 58 else if k = 34 then 4 else 5
theorem kindT_inv (t : Int) : kindT t = 38 ∨ t = sgk (kindT t) := by
  by_cases h0 : t = 60
  · subst h0; exact Or.inr (by decide)
  by_cases h1 : t = 62
  · subst h1; exact Or.inr (by decide)
  by_cases h2 : t = 61
  · subst h2; exact Or.inr (by decide)
  by_cases h3 : t = 35
  · subst h3; exact Or.inr (by decide)
  by_cases h4 : t = 43
  · subst h4; exact Or.inr (by decide)
  by_cases h5 : t = 45
  · subst h5; exact Or.inr (by decide)
  by_cases h6 : t = 42
  · subst h6; exact Or.inr (by decide)
  by_cases h7 : t = 47
  · subst h7; exact Or.inr (by decide)
  by_cases h8 : t = 40
  · subst h8; exact Or.inr (by decide)
  by_cases h9 : t = 41
  · subst h9; exact Or.inr (by decide)
  by_cases h10 : t = 59
  · subst h10; exact Or.inr (by decide)
  by_cases h11 : t = 63
  · subst h11; exact Or.inr (by decide)
  by_cases h12 : t = 58
  · subst h12; exact Or.inr (by decide)
  by_cases h13 : t = 4
  · subst h13; exact Or.inr (by decide)
  by_cases h14 : t = 5
  · subst h14; exact Or.inr (by decide)
  left
  unfold kindT
  rw [if_neg h0, if_neg h1, if_neg h2, if_neg h3, if_neg h4, if_neg h5, if_neg h6, if_neg h7, if_neg h8, if_neg h9, if_neg h10, if_neg h11, if_neg h12, if_neg h13, if_neg h14]
theorem kindT_or (t : Int) : kindT t = 38 ∨ (21 ≤ kindT t ∧ kindT t ≤ 35) := by
  by_cases h0 : t = 60
  · subst h0; exact Or.inr (by decide)
  by_cases h1 : t = 62
  · subst h1; exact Or.inr (by decide)
  by_cases h2 : t = 61
  · subst h2; exact Or.inr (by decide)
  by_cases h3 : t = 35
  · subst h3; exact Or.inr (by decide)
  by_cases h4 : t = 43
  · subst h4; exact Or.inr (by decide)
  by_cases h5 : t = 45
  · subst h5; exact Or.inr (by decide)
  by_cases h6 : t = 42
  · subst h6; exact Or.inr (by decide)
  by_cases h7 : t = 47
  · subst h7; exact Or.inr (by decide)
  by_cases h8 : t = 40
  · subst h8; exact Or.inr (by decide)
  by_cases h9 : t = 41
  · subst h9; exact Or.inr (by decide)
  by_cases h10 : t = 59
  · subst h10; exact Or.inr (by decide)
  by_cases h11 : t = 63
  · subst h11; exact Or.inr (by decide)
  by_cases h12 : t = 58
  · subst h12; exact Or.inr (by decide)
  by_cases h13 : t = 4
  · subst h13; exact Or.inr (by decide)
  by_cases h14 : t = 5
  · subst h14; exact Or.inr (by decide)
  left
  unfold kindT
  rw [if_neg h0, if_neg h1, if_neg h2, if_neg h3, if_neg h4, if_neg h5, if_neg h6, if_neg h7, if_neg h8, if_neg h9, if_neg h10, if_neg h11, if_neg h12, if_neg h13, if_neg h14]
theorem kindT_rng (t : Int) : 21 ≤ kindT t ∧ kindT t ≤ 38 ∧ kindT t ≠ 36 ∧ kindT t ≠ 37 := by
  rcases kindT_inv t with q | q
  · rw [q]; decide
  · have h := kindT_or t
    omega
def SGb (c : Int) : Int := if c = 60 then 1 else if c = 62 then 1 else if c = 61 then 1 else if c = 35 then 1 else if c = 43 then 1 else if c = 45 then 1 else if c = 42 then 1 else if c = 47 then 1 else if c = 40 then 1 else if c = 41 then 1 else if c = 59 then 1 else if c = 44 then 1 else if c = 63 then 1 else if c = 58 then 1 else 0
def NR (v w : Int) : Prop := (0 ≤ v ∧ v ≤ 9999 ∧ w = v) ∨ (9999 < v ∧ v ≤ 1000000 ∧ w = 10000)
def TKR (b : Nat → Int) (p : Nat) (tok num wrd : Int) : Prop :=
  (tok = 0 ∧ kdr b p = 37) ∨ (tok = 1 ∧ kdr b p = 36 ∧ NR num (nbr b p)) ∨ (tok = 2 ∧ ∃ l, kdr b p = kindL l ∧ (∀ c, c ∈ l → 1 ≤ c ∧ c ≤ 255) ∧ ((wrd = pkr l ∧ l.length ≤ 7) ∨ (wrd = 0 ∧ 7 < l.length))) ∨ (3 ≤ tok ∧ kdr b p = kindT tok)
section TKS
variable {b : Nat → Int} {p q : Nat} {num wrd v w t : Int}
theorem tk_end (h : b p < 0) : TKR b p 0 num wrd := Or.inl ⟨rfl, if_pos h⟩
theorem tk_dig (h1 : p < q) (hq : q ≤ 300) (h2 : ∀ j, p ≤ j → j < q → isDi (b j)) (h3 : ¬ isDi (b q)) (hn : NR v (nva b p (q - p))) : TKR b p 1 v wrd ∧ tend b p = q := by
  have hp := h2 p (Nat.le_refl _) h1
  have hs : sp pD b 302 p = q := sp_eq 302 p q (by omega) (by omega) (fun j a c => pD_t (h2 j a c)) (pD_f h3)
  refine ⟨Or.inr (Or.inl ⟨rfl, ?_, ?_⟩), ?_⟩
  · unfold kdr; rw [if_neg (by omega), if_pos hp]
  · unfold nbr; rw [hs]; exact hn
  · unfold tend; rw [if_pos hp]; exact hs
theorem wdr_mem : ∀ (k : Nat), (∀ j, p ≤ j → j < p + k → isLe (b j)) → ∀ c, c ∈ wdr b p k → 1 ≤ c ∧ c ≤ 255 := by
  intro k
  induction k with
  | zero => intro _ c hc; simp [wdr] at hc
  | succ k ih =>
    intro h c hc
    rcases List.mem_cons.mp hc with rfl | hc
    · have := h (p + k) (by omega) (by omega); omega
    · exact ih (fun j a d => h j a (by omega)) c hc
theorem wdr_len : ∀ (k : Nat), (wdr b p k).length = k := by
  intro k
  induction k with
  | zero => rfl
  | succ k ih => show (wdr b p k).length + 1 = k + 1; rw [ih]
theorem tk_let (h1 : p < q) (hq : q ≤ 300) (h2 : ∀ j, p ≤ j → j < q → isLe (b j)) (h3 : ¬ isLe (b q)) (hw : (q - p ≤ 7 ∧ w = pkr (wdr b p (q - p))) ∨ (7 < q - p ∧ w = 0)) : TKR b p 2 num w ∧ tend b p = q := by
  have hp := h2 p (Nat.le_refl _) h1
  have hd : ¬ isDi (b p) := by omega
  have hs : sp pL b 302 p = q := sp_eq 302 p q (by omega) (by omega) (fun j a c => pL_t (h2 j a c)) (pL_f h3)
  refine ⟨Or.inr (Or.inr (Or.inl ⟨rfl, wdr b p (q - p), ?_, ?_, ?_⟩)), ?_⟩
  · unfold kdr; rw [if_neg (by omega), if_neg hd, if_pos hp, hs]
  · exact wdr_mem (q - p) (fun j a c => h2 j a (by omega))
  · rw [wdr_len]
    rcases hw with h | h
    · exact Or.inl ⟨h.2, h.1⟩
    · exact Or.inr ⟨h.2, h.1⟩
  · unfold tend; rw [if_neg hd, if_pos hp]; exact hs
theorem tk_pln (h0 : 0 ≤ b p) (hd : ¬ isDi (b p)) (hl : ¬ isLe (b p)) (hw : ¬ ((b p = 60 ∨ b p = 62) ∧ b (p + 1) = 61)) (ht : (SGb (b p) = 1 ∧ t = b p) ∨ (SGb (b p) = 0 ∧ t = 3)) : TKR b p t num wrd ∧ tend b p = p + 1 := by
  have hk : kdr b p = kindS (b p) (b (p + 1)) := by unfold kdr; rw [if_neg (by omega), if_neg hd, if_neg hl]
  refine ⟨Or.inr (Or.inr (Or.inr ?_)), ?_⟩
  · rw [hk]
    unfold SGb at ht
    unfold kindS kindT
    rcases ht with ⟨h1, rfl⟩ | ⟨h1, rfl⟩
    · have h35 : 35 ≤ b p := by
        repeat' (split at h1)
        all_goals omega
      clear h1
      refine ⟨by omega, ?_⟩
      repeat' split
      all_goals omega
    · refine ⟨by decide, ?_⟩
      repeat' (split at h1)
      all_goals first | omega | ((repeat' split) <;> omega)
  · unfold tend; rw [if_neg hd, if_neg hl, if_neg hw]
theorem tk_wid (hc : (b p = 60 ∧ t = 4) ∨ (b p = 62 ∧ t = 5)) (hd : b (p + 1) = 61) : TKR b p t num wrd ∧ tend b p = p + 2 := by
  have hk : kdr b p = kindS (b p) (b (p + 1)) := by unfold kdr; rw [if_neg (by omega), if_neg (by omega), if_neg (by omega)]
  refine ⟨Or.inr (Or.inr (Or.inr ?_)), ?_⟩
  · rw [hk, hd]
    rcases hc with ⟨h1, rfl⟩ | ⟨h1, rfl⟩
    · rw [h1]; exact ⟨by decide, by decide⟩
    · rw [h1]; exact ⟨by decide, by decide⟩
  · unfold tend; rw [if_neg (by omega), if_neg (by omega), if_pos ⟨by omega, hd⟩]
theorem nva_s (k : Nat) : nva b p (k + 1) = if 10000 < 10 * nva b p k + b (p + k) - 48 then 10000 else 10 * nva b p k + b (p + k) - 48 := rfl
/-- one digit more: the reference's number beside the tape's -/
theorem NR.dig {k : Nat} (h : NR v (nva b p k)) (hd : isDi (b (p + k))) (hv : (v < 100000 ∧ w = 10 * v + b (p + k) - 48) ∨ (100000 ≤ v ∧ w = v)) : NR w (nva b p (k + 1)) := by
  rw [nva_s]
  unfold NR at h ⊢
  split <;> omega
theorem kd_w {tok k : Int} (h : TKR b p tok num wrd) (hk : 1 ≤ k ∧ k ≤ 18) : (tok = 2 ∧ wrd = pkr (wk k)) ↔ kdr b p = k := by
  obtain ⟨w1, w2, w3, w4⟩ := wk_ok hk
  constructor
  · rintro ⟨rfl, e⟩
    rcases h with h | h | h | h
    · exact absurd h.1 (by decide)
    · exact absurd h.1 (by decide)
    · obtain ⟨-, l, h1, h2, h3⟩ := h
      rcases h3 with h3 | h3
      · have : l = wk k := pkr_inj l (wk k) h2 w1 (h3.1.symm.trans e)
        rw [h1, this]; exact w3
      · exact absurd (e.symm.trans h3.1) w4
    · exact absurd h.1 (by decide)
  · intro e
    rcases h with h | h | h | h
    · omega
    · omega
    · obtain ⟨h0, l, h1, h2, h3⟩ := h
      rcases kindL_inv l with h4 | h4
      · omega
      · have e2 : kindL l = k := h1.symm.trans e
        have e3 : l = wk k := by rw [← e2]; exact h4.2.2
        subst e3
        rcases h3 with h3 | h3
        · exact ⟨h0, h3.1⟩
        · exact absurd h3.2 (by omega)
    · have := kindT_rng tok; omega
end TKS
def bb (td : Int) (f : Nat → Int32) : Nat → Int := fun k => BA td f (k : Int)
theorem bb_at {td k : Int} {f : Nat → Int32} (h : 0 ≤ k) : bb td f k.toNat = BA td f k := by
  unfold bb; rw [Int.toNat_of_nonneg h]
theorem bb_at1 {td k : Int} {f : Nat → Int32} (h : 0 ≤ k) : bb td f (k.toNat + 1) = BA td f (k + 1) := by
  unfold bb; rw [show (((k.toNat + 1 : Nat)) : Int) = k + 1 by omega]
theorem ext_span {P : Int → Prop} {b : Nat → Int} {p q : Nat} (h : ∀ j, p ≤ j → j < q → P (b j)) (hq : P (b q)) : ∀ j, p ≤ j → j < q + 1 → P (b j) := fun j h1 h2 => by
  by_cases e : j = q
  · subst e; exact hq
  · exact h j h1 (by omega)
theorem nat64 {x : Int64} (h : 0 ≤ x.toInt) : (x.toBitVec.toNat : Int) = x.toInt := by
  have e : x.toInt = x.toBitVec.toInt := rfl
  have hl := x.toBitVec.isLt
  rw [e, BitVec.toInt_eq_toNat_cond] at h ⊢
  split at h
  · rw [if_pos (by assumption)]
  · omega
theorem shl8_or {w : Int64} {c : Int32} (h0 : 0 ≤ w.toInt) (h1 : w.toInt < 281474976710656) (hc : 0 ≤ c.toInt ∧ c.toInt < 256) : ((w <<< ((8 : Int32).toInt64 &&& 63)) ||| c.toInt64).toInt = 256 * w.toInt + c.toInt := by
  have e8 : ((8 : Int32).toInt64 &&& 63) = 8 := by decide
  have em : c.toInt64.toInt = c.toInt := Int32.toInt_toInt64 c
  have n1 := nat64 h0
  have n2 := nat64 (x := c.toInt64) (by rw [em]; exact hc.1)
  rw [em] at n2
  rw [e8]
  have hX : (w <<< (8 : Int64) ||| c.toInt64).toBitVec.toNat = w.toBitVec.toNat * 256 + c.toInt64.toBitVec.toNat := by
    rw [Int64.toBitVec_or, Int64.toBitVec_shiftLeft, show ((8 : Int64).toBitVec.smod 64) = 8#64 by decide, BitVec.toNat_or, BitVec.shiftLeft_eq', BitVec.toNat_shiftLeft, show (8#64).toNat = 8 by decide, Nat.mod_eq_of_lt (by rw [Nat.shiftLeft_eq]; omega), ← Nat.shiftLeft_add_eq_or_of_lt (by omega), Nat.shiftLeft_eq]
  have e : (w <<< (8 : Int64) ||| c.toInt64).toInt = (w <<< (8 : Int64) ||| c.toInt64).toBitVec.toInt := rfl
  rw [e, BitVec.toInt_eq_toNat_cond, hX, if_pos (by omega)]
  omega
theorem pkr_lt : ∀ (l : List Int), (∀ c, c ∈ l → 1 ≤ c ∧ c ≤ 255) → pkr l < 256 ^ l.length := by
  intro l
  induction l with
  | nil => intro _; decide
  | cons c l ih =>
    intro h
    have h1 := h c (List.mem_cons_self ..)
    have h2 := ih (fun x hx => h x (List.mem_cons_of_mem _ hx))
    show 256 * pkr l + c < 256 ^ (l.length + 1)
    rw [Int.pow_succ]
    omega
def WRr (w : Int) (b : Nat → Int) (p k : Nat) : Prop := (k ≤ 7 ∧ w = pkr (wdr b p k)) ∨ 7 < k
theorem WRr.ext {w : Int64} {c : Int32} {b : Nat → Int} {p k : Nat} (h : WRr w.toInt b p k) (hk : k < 7) (hl : ∀ j, p ≤ j → j < p + k → isLe (b j)) (hc : b (p + k) = c.toInt) (hc2 : isLe c.toInt) : WRr ((w <<< ((8 : Int32).toInt64 &&& 63)) ||| c.toInt64).toInt b p (k + 1) := by
  rcases h with ⟨-, h⟩ | h
  · have hm := wdr_mem k hl
    have h0 := pkr_nn _ hm
    have h1 := pkr_lt _ hm
    rw [wdr_len] at h1
    have h2 : (256 : Int) ^ k ≤ 256 ^ 6 := by
      have : k = 0 ∨ k = 1 ∨ k = 2 ∨ k = 3 ∨ k = 4 ∨ k = 5 ∨ k = 6 := by omega
      rcases this with rfl | rfl | rfl | rfl | rfl | rfl | rfl <;> decide
    have h3 : (256 : Int) ^ 6 = 281474976710656 := by decide
    refine Or.inl ⟨by omega, ?_⟩
    rw [shl8_or (by rw [h]; exact h0) (by rw [h]; omega) (by omega), h]
    show _ = 256 * pkr (wdr b p k) + b (p + k)
    rw [hc]
  · omega
theorem WRr.skip {w : Int} {b : Nat → Int} {p k : Nat} (hk : 7 ≤ k) : WRr w b p (k + 1) := Or.inr (by omega)
def TSX (b : Nat → Int) (plc at_ tok num : Int32) (wrd : Int64) : Prop := TKR b plc.toInt.toNat tok.toInt num.toInt wrd.toInt ∧ (tok.toInt ≠ 0 → at_.toInt.toNat = tend b plc.toInt.toNat)
/-- what a token of the reference says of the kind at its place -/
def TKK (tok wrd kd : Int) : Prop := (tok = 0 ↔ kd = 37) ∧ (tok = 1 ↔ kd = 36) ∧ (∀ k, 1 ≤ k → k ≤ 18 → ((tok = 2 ∧ wrd = pkr (wk k)) ↔ kd = k)) ∧ (3 ≤ tok → kd = kindT tok) ∧ 0 ≤ tok ∧ (tok = 2 → (1 ≤ kd ∧ kd ≤ 18) ∨ kd = 38)
theorem TKR.kk {b : Nat → Int} {p : Nat} {tok num wrd : Int} (h : TKR b p tok num wrd) : TKK tok wrd (kdr b p) := by
  refine ⟨?_, ?_, fun k h1 h2 => kd_w h ⟨h1, h2⟩, ?_, ?_, ?_⟩
  · rcases h with h | h | h | h
    · exact ⟨fun _ => h.2, fun _ => h.1⟩
    · constructor <;> intro <;> omega
    · obtain ⟨h0, l, h1, -⟩ := h
      constructor
      · intro; omega
      · intro e
        rcases kindL_inv l with h4 | h4 <;> omega
    · have := kindT_rng tok
      constructor <;> intro <;> omega
  · rcases h with h | h | h | h
    · constructor <;> intro <;> omega
    · exact ⟨fun _ => h.2.1, fun _ => h.1⟩
    · obtain ⟨h0, l, h1, -⟩ := h
      constructor
      · intro; omega
      · intro e
        rcases kindL_inv l with h4 | h4 <;> omega
    · have := kindT_rng tok
      constructor <;> intro <;> omega
  · intro h3
    rcases h with h | h | h | h
    · omega
    · omega
    · omega
    · exact h.2
  · rcases h with h | h | h | h <;> omega
  · intro h3
    rcases h with h | h | h | h
    · omega
    · omega
    · obtain ⟨h0, l, h1, -⟩ := h
      rcases kindL_inv l with h4 | h4 <;> omega
    · omega
section TKKS
variable {tok wrd kd : Int}
theorem TKK.w (h : TKK tok wrd kd) (k N : Int) (hk : 1 ≤ k ∧ k ≤ 18) (hN : pkr (wk k) = N) : (tok = 2 ∧ wrd = N) ↔ kd = k := by
  rw [← hN]; exact h.2.2.1 k hk.1 hk.2
theorem TKK.s (h : TKK tok wrd kd) (k t : Int) (hk : 21 ≤ k ∧ k ≤ 35) (ht : sgk k = t) (ht2 : kindT t = k) (ht3 : 3 ≤ t) : tok = t ↔ kd = k := by
  obtain ⟨h0, h1, -, h3, h4, h5⟩ := h
  constructor
  · intro e; rw [h3 (by omega), e]; exact ht2
  · intro e
    have a0 : tok ≠ 0 := fun q => by have := h0.mp q; omega
    have a1 : tok ≠ 1 := fun q => by have := h1.mp q; omega
    have a2 : tok ≠ 2 := fun q => by have := h5 q; omega
    have e2 := h3 (by omega)
    rcases kindT_inv tok with q | q
    · omega
    · rw [q, ← e2, e]; exact ht
theorem TKK.n2 (h : TKK tok wrd kd) (ht : tok ≠ 2) : kd < 1 ∨ 18 < kd := by
  by_cases q : 1 ≤ kd ∧ kd ≤ 18
  · exact absurd ((h.2.2.1 kd q.1 q.2).mpr rfl).1 ht
  · omega
end TKKS
theorem lcmp_f (x y : Int64) : ((lg_cmp x y).toInt = 0 ∧ x.toInt = y.toInt) ∨ ((lg_cmp x y).toInt ≠ 0 ∧ x.toInt ≠ y.toInt) := by
  by_cases h : x = y
  · exact Or.inl ⟨by rw [(lg_cmp_eq x y).mpr h]; decide, by rw [h]⟩
  · refine Or.inr ⟨fun q => h ((lg_cmp_eq x y).mp (Int32.toInt_inj.mp (q.trans (by decide)))), fun q => h (Int64.toInt_inj.mp q)⟩
theorem rk_0 {e : Int} (h : rk e = 0) : 40 ≤ e := by
  unfold rk at h
  repeat' (split at h)
  all_goals omega
theorem TKR.nr {b : Nat → Int} {p : Nat} {tok num wrd : Int} (h : TKR b p tok num wrd) (ht : tok = 1) : NR num (nbr b p) := by
  rcases h with h | h | h | h
  · omega
  · exact h.2.2
  · omega
  · omega
/-! ===== what is fed ===== -/
def b4 (p i : Int) : Int := if i = 0 then p / 16777216 % 256 else if i = 1 then p / 65536 % 256 else if i = 2 then p / 256 % 256 else p % 256
theorem b4_rng (p i : Int) : 0 ≤ b4 p i ∧ b4 p i ≤ 255 := by
  unfold b4
  repeat' split
  all_goals omega
def FDi (b : Nat → Int) (td p i : Int) : Nat → Int := fun k => if (k : Int) < td then b k else if (k : Int) < td + i then b4 p ((k : Int) - td) else -1
theorem FDi_0 {td p : Int} {f : Nat → Int32} : bb td f = FDi (bb td f) td p 0 := by
  funext k
  show BA td f (k : Int) = (if (k : Int) < td then BA td f (k : Int) else if (k : Int) < td + 0 then b4 p ((k : Int) - td) else -1)
  by_cases h : (k : Int) < td
  · rw [if_pos h]
  · rw [if_neg h, if_neg (by omega)]; unfold BA; rw [if_neg h]
theorem FDi_s {b : Nat → Int} {td p vt : Int} {f : Nat → Int32} {v : Int32} (ht : 0 ≤ td ∧ td ≤ vt) (h : bb vt f = FDi b td p (vt - td)) (hv : v.toInt = b4 p (vt - td)) : bb (vt + 1) (upd f vt.toNat v) = FDi b td p (vt + 1 - td) := by
  funext k
  have hk : BA vt f (k : Int) = (if (k : Int) < td then b k else if (k : Int) < td + (vt - td) then b4 p ((k : Int) - td) else -1) := congrFun h k
  show BA (vt + 1) (upd f vt.toNat v) (k : Int) = (if (k : Int) < td then b k else if (k : Int) < td + (vt + 1 - td) then b4 p ((k : Int) - td) else -1)
  by_cases h1 : (k : Int) < vt
  · have e : BA (vt + 1) (upd f vt.toNat v) (k : Int) = BA vt f (k : Int) := by
      unfold BA
      rw [if_pos (by omega), if_pos h1, pk_un (by omega)]
    rw [e, hk]
    by_cases h2 : (k : Int) < td
    · rw [if_pos h2, if_pos h2]
    · rw [if_neg h2, if_neg h2, if_pos (by omega), if_pos (by omega)]
  · by_cases h2 : (k : Int) = vt
    · have e : BA (vt + 1) (upd f vt.toNat v) (k : Int) = v.toInt := by
        unfold BA
        rw [if_pos (by omega), show ((k : Int)).toNat = vt.toNat by omega, pk_us]
      rw [e, if_neg (by omega), if_pos (by omega), hv, h2]
    · unfold BA
      rw [if_neg (by omega), if_neg (by omega), if_neg (by omega)]
def FD5 (b : Nat → Int) (td p0 p1 p2 p3 p4 : Int) : Nat → Int := FDi (FDi (FDi (FDi (FDi b td p0 4) (td + 4) p1 4) (td + 8) p2 4) (td + 12) p3 4) (td + 16) p4 4
def FdP (b : Nat → Int) (td p0 p1 p2 p3 p4 : Int) (b2 : Nat → Int) : Prop := (280 < td ∧ b2 = b) ∨ (td ≤ 280 ∧ b2 = FD5 b td p0 p1 p2 p3 p4)
def CUT (b : Nat → Int) (n : Int) : Nat → Int := fun k => if (k : Int) < n then b k else -1
theorem bb_cut {td n : Int} {f : Nat → Int32} (h : n ≤ td) : bb n f = CUT (bb td f) n := by
  funext k
  show BA n f (k : Int) = (if (k : Int) < n then BA td f (k : Int) else -1)
  unfold BA
  by_cases h1 : (k : Int) < n
  · rw [if_pos h1, if_pos h1, if_pos (by omega)]
  · rw [if_neg h1, if_neg h1]
theorem bb_0 {f : Nat → Int32} : bb 0 f = fun _ => -1 := by
  funext k
  show BA 0 f (k : Int) = -1
  unfold BA
  rw [if_neg (by omega)]
theorem nat32 (x : Int32) : x.toInt = (x.toBitVec.toNat : Int) ∨ x.toInt = (x.toBitVec.toNat : Int) - 4294967296 := by
  have e : x.toInt = x.toBitVec.toInt := rfl
  rw [e, BitVec.toInt_eq_toNat_cond]
  split
  · exact Or.inl rfl
  · exact Or.inr rfl
theorem and255 (y : Int32) : (y &&& 255).toInt = y.toInt % 256 := by
  have e : (y &&& 255).toBitVec.toNat = y.toBitVec.toNat % 256 := by
    rw [Int32.toBitVec_and, BitVec.toNat_and, show (255 : Int32).toBitVec.toNat = 2 ^ 8 - 1 by decide, Nat.and_two_pow_sub_one_eq_mod]
  have h1 := nat32 (y &&& 255)
  have h2 := nat32 y
  have h3 := (y &&& 255).toBitVec.isLt
  have h4 : (y &&& 255).toInt = ((y &&& 255).toBitVec.toNat : Int) := by
    have e5 : (y &&& 255).toInt = (y &&& 255).toBitVec.toInt := rfl
    rw [e5, BitVec.toInt_eq_toNat_cond, if_pos (by rw [e]; omega)]
  rw [h4, e]
  omega
theorem sh_4 {j : Int32} (h : j.toInt = 24 ∨ j.toInt = 16 ∨ j.toInt = 8 ∨ j.toInt = 0) : j = 24 ∨ j = 16 ∨ j = 8 ∨ j = 0 := by
  rcases h with q | q | q | q
  · exact Or.inl (Int32.toInt_inj.mp (q.trans (by decide)))
  · exact Or.inr (Or.inl (Int32.toInt_inj.mp (q.trans (by decide))))
  · exact Or.inr (Or.inr (Or.inl (Int32.toInt_inj.mp (q.trans (by decide)))))
  · exact Or.inr (Or.inr (Or.inr (Int32.toInt_inj.mp (q.trans (by decide)))))
theorem ush_n (x : Int32) (c : UInt32) (k : Nat) (hc : c.toNat % 32 = k) : ((x.toUInt32 >>> c).toInt32).toBitVec.toNat = x.toBitVec.toNat >>> k := by
  have e : ((x.toUInt32 >>> c).toInt32).toBitVec.toNat = (x.toUInt32 >>> c).toNat := rfl
  rw [e, UInt32.toNat_shiftRight, hc]
  rfl
theorem ush_b {x j : Int32} (h : j.toInt = 24 ∨ j.toInt = 16 ∨ j.toInt = 8 ∨ j.toInt = 0) : ((x.toUInt32 >>> (j.toUInt32 &&& Int32.toUInt32 31)).toInt32 &&& 255).toInt = b4 x.toInt ((24 - j.toInt) / 8) := by
  have hx := nat32 x
  rw [and255]
  rcases sh_4 h with rfl | rfl | rfl | rfl
  · have e := ush_n x ((24 : Int32).toUInt32 &&& Int32.toUInt32 31) 24 (by decide)
    have h1 := nat32 ((x.toUInt32 >>> ((24 : Int32).toUInt32 &&& Int32.toUInt32 31)).toInt32)
    rw [e, Nat.shiftRight_eq_div_pow] at h1
    rw [show (24 - (24 : Int32).toInt) / 8 = 0 by decide]
    show _ = x.toInt / 16777216 % 256
    omega
  · have e := ush_n x ((16 : Int32).toUInt32 &&& Int32.toUInt32 31) 16 (by decide)
    have h1 := nat32 ((x.toUInt32 >>> ((16 : Int32).toUInt32 &&& Int32.toUInt32 31)).toInt32)
    rw [e, Nat.shiftRight_eq_div_pow] at h1
    rw [show (24 - (16 : Int32).toInt) / 8 = 1 by decide]
    show _ = x.toInt / 65536 % 256
    omega
  · have e := ush_n x ((8 : Int32).toUInt32 &&& Int32.toUInt32 31) 8 (by decide)
    have h1 := nat32 ((x.toUInt32 >>> ((8 : Int32).toUInt32 &&& Int32.toUInt32 31)).toInt32)
    rw [e, Nat.shiftRight_eq_div_pow] at h1
    rw [show (24 - (8 : Int32).toInt) / 8 = 2 by decide]
    show _ = x.toInt / 256 % 256
    omega
  · have e := ush_n x ((0 : Int32).toUInt32 &&& Int32.toUInt32 31) 0 (by decide)
    have h1 := nat32 ((x.toUInt32 >>> ((0 : Int32).toUInt32 &&& Int32.toUInt32 31)).toInt32)
    rw [e, Nat.shiftRight_eq_div_pow] at h1
    rw [show (24 - (0 : Int32).toInt) / 8 = 3 by decide]
    show _ = x.toInt % 256
    omega
theorem ssh_i (x c : Int32) (k : Nat) (hc : (c.toBitVec.smod 32).toNat = k) : (x >>> c).toInt = x.toInt / 2 ^ k := by
  have e : (x >>> c).toInt = (x >>> c).toBitVec.toInt := rfl
  rw [e, Int32.toBitVec_shiftRight, BitVec.sshiftRight_eq', BitVec.toInt_sshiftRight, hc, Int.shiftRight_eq_div_pow]
  rfl
theorem ssh_b {x j : Int32} (h : j.toInt = 24 ∨ j.toInt = 16 ∨ j.toInt = 8 ∨ j.toInt = 0) : ((x >>> (j &&& 31)) &&& 255).toInt = b4 x.toInt ((24 - j.toInt) / 8) := by
  rw [and255]
  rcases sh_4 h with rfl | rfl | rfl | rfl
  · rw [ssh_i x ((24 : Int32) &&& 31) 24 (by decide), show (24 - (24 : Int32).toInt) / 8 = 0 by decide]
    rfl
  · rw [ssh_i x ((16 : Int32) &&& 31) 16 (by decide), show (24 - (16 : Int32).toInt) / 8 = 1 by decide]
    rfl
  · rw [ssh_i x ((8 : Int32) &&& 31) 8 (by decide), show (24 - (8 : Int32).toInt) / 8 = 2 by decide]
    rfl
  · rw [ssh_i x ((0 : Int32) &&& 31) 0 (by decide), show (24 - (0 : Int32).toInt) / 8 = 3 by decide]
    show x.toInt / 2 ^ 0 % 256 = x.toInt % 256
    omega

/-! ===== the language as a machine: what both readers do, token by token ===== -/
def dr (l : Int) : List Int → List Int
  | [] => []
  | e :: L => if l ≤ rk e then dr l L else e :: L
abbrev Cg : Type := Int × (Int → Bool) × Int × List Int × Bool × Nat
abbrev nmOK (law k : Int) : Prop := k ≤ 14 ∨ (k ≤ 16 ∧ law ≠ 3) ∨ (k = 17 ∧ law = 2) ∨ (k = 18 ∧ law = 3)
def cmpo (k : Int) : Int := if k = 21 then 10 else if k = 34 then 11 else if k = 22 then 12 else if k = 35 then 13 else if k = 23 then 14 else if k = 24 then 15 else -1
def mop (law : Int) (on : Int → Bool) (n : Int) (L : List Int) (p q : Nat) (e : Int) : Cg ⊕ (Int × Nat) := if vO L = 8 then .inr (3, p) else .inl (law, on, n, e :: L, false, q)
def mbeg (law : Int) (on : Int → Bool) (n : Int) (L : List Int) (p q : Nat) (k v : Int) : Cg ⊕ (Int × Nat) :=
  if k = 36 then (if 9999 < v then .inr (2, p) else .inl (law, on, n, dr 7 L, true, q))
  else if 11 ≤ k ∧ k ≤ 18 then (if nmOK law k then .inl (law, on, n, dr 7 L, true, q) else .inr (5, p))
    else if k = 29 then mop law on n L p q 40
    else if k = 26 then mop law on n L p q 2
    else if k = 6 then mop law on n L p q 41
    else if k = 10 ∧ vK L = 1 ∧ vR L ≤ 3 then mop law on n L p q 20
    else .inr (1, p)
def mbet (L : List Int) (k : Int) : Int := if k = 25 then 3 else if k = 26 then 4 else if k = 27 then 5 else if k = 28 then 6 else if vK L ≠ 1 then -1 else if vC L ≠ 1 then cmpo k else if k = 9 then 21 else if k = 8 then 22 else -1
def mbeh (law : Int) (on : Int → Bool) (n : Int) (L : List Int) (p q : Nat) (k : Int) : Cg ⊕ (Int × Nat) :=
  if 0 ≤ mbet L k then .inl (law, on, n, mbet L k :: dr (rk (mbet L k)) L, false, q)
  else if (k = 30 ∧ vM L = 40) ∨ (k = 7 ∧ vM L = 43) then .inl (law, on, n, dr 7 (dr 1 L).tail, true, q)
  else if k = 32 ∧ vM L = 41 ∧ vC L = 1 then .inl (law, on, n, 42 :: (dr 1 L).tail, false, q)
  else if k = 33 ∧ vM L = 42 then .inl (law, on, n, 43 :: (dr 1 L).tail, false, q)
  else if vM L = -1 then .inl (6, on, n + 1, [], false, p)
  else .inr (1, p)
def mcl (on : Int → Bool) (n : Int) (p q : Nat) (k : Int) : Cg ⊕ (Int × Nat) :=
  if k = 37 then .inr (0, p)
  else if k < 1 ∨ 5 < k then .inr (1, p)
  else if k ≤ 3 ∧ on k = true then .inr (4, p)
  else if n = 24 then .inr (6, p)
  else .inl (k, (if k ≤ 3 then fun j => if j = k then true else on j else on), n, [], false, q)
def mnum (on : Int → Bool) (n : Int) (p q : Nat) (k v lo hi : Int) : Cg ⊕ (Int × Nat) :=
  if k ≠ 36 then .inr (1, p) else if v < lo ∨ hi < v then .inr (2, p) else .inl (6, on, n + 1, [], false, q)
def msem (on : Int → Bool) (n : Int) (p q : Nat) (k : Int) : Cg ⊕ (Int × Nat) :=
  if k = 31 then .inl (0, on, n, [], false, q) else .inr (1, p)
def mst (kd nb : Nat → Int) (nx : Nat → Nat) (c : Cg) : Cg ⊕ (Int × Nat) :=
  if c.1 = 0 then mcl c.2.1 c.2.2.1 c.2.2.2.2.2 (nx c.2.2.2.2.2) (kd c.2.2.2.2.2)
  else if c.1 = 4 then mnum c.2.1 c.2.2.1 c.2.2.2.2.2 (nx c.2.2.2.2.2) (kd c.2.2.2.2.2) (nb c.2.2.2.2.2) 0 5
  else if c.1 = 5 then mnum c.2.1 c.2.2.1 c.2.2.2.2.2 (nx c.2.2.2.2.2) (kd c.2.2.2.2.2) (nb c.2.2.2.2.2) 1 99
  else if c.1 = 6 then msem c.2.1 c.2.2.1 c.2.2.2.2.2 (nx c.2.2.2.2.2) (kd c.2.2.2.2.2)
  else if c.2.2.2.2.1 = true then mbeh c.1 c.2.1 c.2.2.1 c.2.2.2.1 c.2.2.2.2.2 (nx c.2.2.2.2.2) (kd c.2.2.2.2.2)
  else mbeg c.1 c.2.1 c.2.2.1 c.2.2.2.1 c.2.2.2.2.2 (nx c.2.2.2.2.2) (kd c.2.2.2.2.2) (nb c.2.2.2.2.2)
def runN (kd nb : Nat → Int) (nx : Nat → Nat) : Nat → Cg → Option (Int × Nat)
  | 0, _ => none
  | n + 1, c => match mst kd nb nx c with
    | .inl c2 => runN kd nb nx n c2
    | .inr r => some r
def Run (kd nb : Nat → Int) (nx : Nat → Nat) (c : Cg) (r : Int × Nat) : Prop := ∃ n, runN kd nb nx n c = some r
def To (kd nb : Nat → Int) (nx : Nat → Nat) (c c2 : Cg) : Prop := ∀ r, Run kd nb nx c2 r → Run kd nb nx c r
section MCH
variable {kd nb : Nat → Int} {nx : Nat → Nat} {c c2 c3 : Cg} {r r2 : Int × Nat}
theorem Run.fin (h : mst kd nb nx c = .inr r) : Run kd nb nx c r := ⟨1, by show (match mst kd nb nx c with | .inl c2 => runN kd nb nx 0 c2 | .inr r => some r) = some r; rw [h]⟩
theorem To.one (h : mst kd nb nx c = .inl c2) : To kd nb nx c c2 := fun r ⟨n, hn⟩ => ⟨n + 1, by show (match mst kd nb nx c with | .inl c2 => runN kd nb nx n c2 | .inr r => some r) = some r; rw [h]; exact hn⟩
theorem To.rf : To kd nb nx c c := fun _ h => h
theorem To.tr (h : To kd nb nx c c2) (h2 : To kd nb nx c2 c3) : To kd nb nx c c3 := fun r hr => h r (h2 r hr)
theorem Run.det_n : ∀ (n m : Nat) (c : Cg) (r r2 : Int × Nat), runN kd nb nx n c = some r → runN kd nb nx m c = some r2 → r = r2 := by
  intro n
  induction n with
  | zero => intro m c r r2 h; exact absurd h (by simp [runN])
  | succ n ih =>
    intro m c r r2 h h2
    cases m with
    | zero => exact absurd h2 (by simp [runN])
    | succ m =>
      simp only [runN] at h h2
      cases e : mst kd nb nx c with
      | inl c2 => rw [e] at h h2; exact ih m c2 r r2 h h2
      | inr q => rw [e] at h h2; exact Option.some.inj (h.symm.trans h2)
theorem Run.det (h : Run kd nb nx c r) (h2 : Run kd nb nx c r2) : r = r2 := by
  obtain ⟨n, hn⟩ := h
  obtain ⟨m, hm⟩ := h2
  exact Run.det_n n m c r r2 hn hm
end MCH
theorem dr_lt {l : Int} {L : List Int} (h : vR L < l) : dr l L = L := by
  cases L with
  | nil => rfl
  | cons e L => exact if_neg (by have : rk e < l := h; omega)
def Ops (l : Int) (O : List Int) : Prop := ∀ e, e ∈ O → ((3 ≤ e ∧ e ≤ 6) ∨ (10 ≤ e ∧ e < 40)) ∧ l ≤ rk e
theorem Ops.nil {l : Int} : Ops l [] := fun e h => by simp at h
theorem Ops.cons {l e : Int} {O : List Int} (he : ((3 ≤ e ∧ e ≤ 6) ∨ (10 ≤ e ∧ e < 40)) ∧ l ≤ rk e) (h : Ops l O) : Ops l (e :: O) := fun x hx => by
  rcases List.mem_cons.mp hx with rfl | hx
  · exact he
  · exact h x hx
theorem Ops.app {l : Int} {O O2 : List Int} (h : Ops l O) (h2 : Ops l O2) : Ops l (O ++ O2) := fun x hx => by
  rcases List.mem_append.mp hx with hx | hx
  · exact h x hx
  · exact h2 x hx
theorem Ops.le {l m : Int} {O : List Int} (h : Ops l O) (hm : m ≤ l) : Ops m O := fun x hx => ⟨(h x hx).1, by have := (h x hx).2; omega⟩
theorem Ops.dq {l : Int} {O L : List Int} (h : Ops l O) : dr l (O ++ L) = dr l L := by
  induction O with
  | nil => rfl
  | cons e O ih =>
    have he := h e (List.mem_cons_self ..)
    show (if l ≤ rk e then dr l (O ++ L) else e :: (O ++ L)) = dr l L
    rw [if_pos he.2]
    exact ih (fun x hx => h x (List.mem_cons_of_mem _ hx))
theorem Ops.kM {l : Int} {O L : List Int} (h : Ops l O) : vK (O ++ L) = vK L ∧ vM (O ++ L) = vM L := by
  induction O with
  | nil => exact ⟨rfl, rfl⟩
  | cons e O ih =>
    have he := (h e (List.mem_cons_self ..)).1
    have h2 := ih (fun x hx => h x (List.mem_cons_of_mem _ hx))
    constructor
    · show (if e = 41 then 1 else if 40 ≤ e then 0 else vK (O ++ L)) = vK L
      rw [if_neg (by omega), if_neg (by omega)]; exact h2.1
    · show (if 40 ≤ e then e else vM (O ++ L)) = vM L
      rw [if_neg (by omega)]; exact h2.2
theorem rk_ge10 {e : Int} (h : 10 ≤ e) : rk e ≤ 4 := by
  unfold rk
  repeat' split
  all_goals omega
theorem Ops.c5 {O L : List Int} (h : Ops 5 O) : vC (O ++ L) = vC L := by
  induction O with
  | nil => rfl
  | cons e O ih =>
    have he := h e (List.mem_cons_self ..)
    have h2 := ih (fun x hx => h x (List.mem_cons_of_mem _ hx))
    have h6 : 3 ≤ e ∧ e ≤ 6 := by
      rcases he.1 with q | q
      · exact q
      · have := rk_ge10 q.1; omega
    show (if 10 ≤ e ∧ e ≤ 15 then 1 else if (3 ≤ e ∧ e ≤ 6) ∨ e = 2 then vC (O ++ L) else 0) = vC L
    rw [if_neg (by omega), if_pos (by omega)]; exact h2
theorem vC_lo {L : List Int} (h : vR L ≤ 3) : vC L = 0 := by
  cases L with
  | nil => rfl
  | cons e L =>
    have h1 : rk e ≤ 3 := h
    have h2 : ¬ (10 ≤ e ∧ e ≤ 15) := fun q => by have := rk_c q.1 q.2; omega
    have h3 : ¬ ((3 ≤ e ∧ e ≤ 6) ∨ e = 2) := fun q => by
      rcases q with q | q
      · have := rk_a q.1 q.2; omega
      · subst q; rw [rk_2] at h1; omega
    show (if 10 ≤ e ∧ e ≤ 15 then 1 else if (3 ≤ e ∧ e ≤ 6) ∨ e = 2 then vC L else 0) = 0
    rw [if_neg h2, if_neg h3]
/-! the text's walk, one transition a row -/
section MTR
variable {kd nb : Nat → Int} {nx : Nat → Nat} {law : Int} {on : Int → Bool} {n : Int} {L O : List Int} {p : Nat}
theorem mst_b (hl : 1 ≤ law ∧ law ≤ 3) : mst kd nb nx (law, on, n, L, false, p) = mbeg law on n L p (nx p) (kd p) (nb p) := by
  unfold mst
  rw [if_neg (show ¬ law = 0 by omega), if_neg (show ¬ law = 4 by omega), if_neg (show ¬ law = 5 by omega), if_neg (show ¬ law = 6 by omega), if_neg (show ¬ (false = true) by decide)]
theorem mst_w (hl : 1 ≤ law ∧ law ≤ 3) : mst kd nb nx (law, on, n, L, true, p) = mbeh law on n L p (nx p) (kd p) := by
  unfold mst
  rw [if_neg (show ¬ law = 0 by omega), if_neg (show ¬ law = 4 by omega), if_neg (show ¬ law = 5 by omega), if_neg (show ¬ law = 6 by omega), if_pos (show true = true from rfl)]
theorem t_num (hl : 1 ≤ law ∧ law ≤ 3) (hk : kd p = 36) (hv : nb p ≤ 9999) : To kd nb nx (law, on, n, L, false, p) (law, on, n, dr 7 L, true, nx p) := To.one (by
  rw [mst_b hl]; unfold mbeg; rw [if_pos hk, if_neg (by omega)])
theorem f_num (hl : 1 ≤ law ∧ law ≤ 3) (hk : kd p = 36) (hv : 9999 < nb p) : Run kd nb nx (law, on, n, L, false, p) (2, p) := Run.fin (by
  rw [mst_b hl]; unfold mbeg; rw [if_pos hk, if_pos hv])
theorem t_name (hl : 1 ≤ law ∧ law ≤ 3) (hk : 11 ≤ kd p ∧ kd p ≤ 18) (hv : nmOK law (kd p)) : To kd nb nx (law, on, n, L, false, p) (law, on, n, dr 7 L, true, nx p) := To.one (by
  rw [mst_b hl]; unfold mbeg; rw [if_neg (by omega), if_pos hk, if_pos hv])
theorem f_name (hl : 1 ≤ law ∧ law ≤ 3) (hk : 11 ≤ kd p ∧ kd p ≤ 18) (hv : ¬ nmOK law (kd p)) : Run kd nb nx (law, on, n, L, false, p) (5, p) := Run.fin (by
  rw [mst_b hl]; unfold mbeg; rw [if_neg (by omega), if_pos hk, if_neg hv])
theorem f_one1 (hl : 1 ≤ law ∧ law ≤ 3) (hk : kd p ≠ 36 ∧ ¬ (11 ≤ kd p ∧ kd p ≤ 18) ∧ kd p ≠ 29 ∧ kd p ≠ 26 ∧ kd p ≠ 6) (hn : vK L = 1 → vR L ≤ 3 → kd p ≠ 10) : Run kd nb nx (law, on, n, L, false, p) (1, p) := Run.fin (by
  rw [mst_b hl]; unfold mbeg; rw [if_neg hk.1, if_neg hk.2.1, if_neg hk.2.2.1, if_neg hk.2.2.2.1, if_neg hk.2.2.2.2, if_neg (fun q => hn q.2.1 q.2.2 q.1)])
theorem f_open3 (hl : 1 ≤ law ∧ law ≤ 3) (hk : kd p = 29 ∨ kd p = 26 ∨ kd p = 6) (hv : vO L = 8) : Run kd nb nx (law, on, n, L, false, p) (3, p) := Run.fin (by
  rw [mst_b hl]; unfold mbeg mop; rw [if_neg (by omega), if_neg (by omega)]
  rcases hk with hk | hk | hk
  · rw [if_pos hk, if_pos hv]
  · rw [if_neg (by omega), if_pos hk, if_pos hv]
  · rw [if_neg (by omega), if_neg (by omega), if_pos hk, if_pos hv])
theorem t_paren (hl : 1 ≤ law ∧ law ≤ 3) (hk : kd p = 29) (hv : vO L ≠ 8) : To kd nb nx (law, on, n, L, false, p) (law, on, n, 40 :: L, false, nx p) := To.one (by
  rw [mst_b hl]; unfold mbeg mop; rw [if_neg (by omega), if_neg (by omega), if_pos hk, if_neg hv])
theorem t_minus (hl : 1 ≤ law ∧ law ≤ 3) (hk : kd p = 26) (hv : vO L ≠ 8) : To kd nb nx (law, on, n, L, false, p) (law, on, n, 2 :: L, false, nx p) := To.one (by
  rw [mst_b hl]; unfold mbeg mop; rw [if_neg (by omega), if_neg (by omega), if_neg (by omega), if_pos hk, if_neg hv])
theorem t_if (hl : 1 ≤ law ∧ law ≤ 3) (hk : kd p = 6) (hv : vO L ≠ 8) : To kd nb nx (law, on, n, L, false, p) (law, on, n, 41 :: L, false, nx p) := To.one (by
  rw [mst_b hl]; unfold mbeg mop; rw [if_neg (by omega), if_neg (by omega), if_neg (by omega), if_neg (by omega), if_pos hk, if_neg hv])
theorem t_not (hl : 1 ≤ law ∧ law ≤ 3) (hk : kd p = 10) (hL : vK L = 1 ∧ vR L ≤ 3) (hv : vO L ≠ 8) : To kd nb nx (law, on, n, L, false, p) (law, on, n, 20 :: L, false, nx p) := To.one (by
  rw [mst_b hl]; unfold mbeg mop; rw [if_neg (by omega), if_neg (by omega), if_neg (by omega), if_neg (by omega), if_neg (by omega), if_pos ⟨hk, hL⟩, if_neg hv])
theorem f_not (hl : 1 ≤ law ∧ law ≤ 3) (hk : kd p = 10) (hL : vK L = 1 ∧ vR L ≤ 3) (hv : vO L = 8) : Run kd nb nx (law, on, n, L, false, p) (3, p) := Run.fin (by
  rw [mst_b hl]; unfold mbeg mop; rw [if_neg (by omega), if_neg (by omega), if_neg (by omega), if_neg (by omega), if_neg (by omega), if_pos ⟨hk, hL⟩, if_pos hv])
theorem bet_a {k : Int} (h : 25 ≤ k ∧ k ≤ 28) : mbet L k = k - 22 := by
  unfold mbet
  have : k = 25 ∨ k = 26 ∨ k = 27 ∨ k = 28 := by omega
  rcases this with rfl | rfl | rfl | rfl
  · rfl
  · rfl
  · rfl
  · rfl
theorem bet_0 {k : Int} (h : k < 25 ∨ 28 < k) : mbet L k = if vK L ≠ 1 then -1 else if vC L ≠ 1 then cmpo k else if k = 9 then 21 else if k = 8 then 22 else -1 := by
  unfold mbet
  rw [if_neg (by omega), if_neg (by omega), if_neg (by omega), if_neg (by omega)]
theorem rk_36 {k : Int} (h : 25 ≤ k ∧ k ≤ 28) : rk (k - 22) = if k ≤ 26 then 5 else 6 := by
  have : k = 25 ∨ k = 26 ∨ k = 27 ∨ k = 28 := by omega
  rcases this with rfl | rfl | rfl | rfl <;> decide
theorem t_mul (hl : 1 ≤ law ∧ law ≤ 3) (hO : Ops 6 O) (hL : vR L ≤ 5) (hk : kd p = 27 ∨ kd p = 28) : To kd nb nx (law, on, n, O ++ L, true, p) (law, on, n, (kd p - 22) :: L, false, nx p) := To.one (by
  rw [mst_w hl]; unfold mbeh; rw [bet_a (by omega), if_pos (by omega), rk_36 (by omega), if_neg (by omega), hO.dq, dr_lt (by omega)])
theorem t_add (hl : 1 ≤ law ∧ law ≤ 3) (hO : Ops 5 O) (hL : vR L ≤ 4) (hk : kd p = 25 ∨ kd p = 26) : To kd nb nx (law, on, n, O ++ L, true, p) (law, on, n, (kd p - 22) :: L, false, nx p) := To.one (by
  rw [mst_w hl]; unfold mbeh; rw [bet_a (by omega), if_pos (by omega), rk_36 (by omega), if_pos (by omega), hO.dq, dr_lt (by omega)])
theorem beh_x (hl : 1 ≤ law ∧ law ≤ 3) (hb : mbet L (kd p) < 0) (h1 : ¬ ((kd p = 30 ∧ vM L = 40) ∨ (kd p = 7 ∧ vM L = 43))) (h2 : ¬ (kd p = 32 ∧ vM L = 41 ∧ vC L = 1)) (h3 : ¬ (kd p = 33 ∧ vM L = 42)) (h4 : vM L ≠ -1) : Run kd nb nx (law, on, n, L, true, p) (1, p) := Run.fin (by
  rw [mst_w hl]; unfold mbeh; rw [if_neg (by omega), if_neg h1, if_neg h2, if_neg h3, if_neg h4])
theorem vM_40 {e : Int} (h : 40 ≤ e) : vM (e :: L) = e := if_pos h
theorem vK_40 {e : Int} (h : 40 ≤ e) (h2 : e ≠ 41) : vK (e :: L) = 0 := by
  show (if e = 41 then 1 else if 40 ≤ e then 0 else vK L) = 0
  rw [if_neg h2, if_pos h]
theorem dr_1m {e : Int} (h : 40 ≤ e) (hO : Ops 1 O) : dr 1 (O ++ e :: L) = e :: L := by
  rw [hO.dq]; exact dr_lt (by show rk e < 1; rw [rk_m h]; decide)
theorem f_at {e : Int} (hl : 1 ≤ law ∧ law ≤ 3) (hO : Ops 5 O) (he : e = 40 ∨ e = 42 ∨ e = 43) (hk : kd p < 25 ∨ 28 < kd p) (hx : (e = 40 → kd p ≠ 30) ∧ (e = 42 → kd p ≠ 33) ∧ (e = 43 → kd p ≠ 7)) : Run kd nb nx (law, on, n, O ++ e :: L, true, p) (1, p) := by
  have hM : vM (O ++ e :: L) = e := hO.kM.2.trans (vM_40 (by omega))
  have hK : vK (O ++ e :: L) = 0 := hO.kM.1.trans (vK_40 (by omega) (by omega))
  refine beh_x hl ?_ ?_ ?_ ?_ ?_
  · rw [bet_0 hk, hK, if_pos (by decide)]; decide
  · rw [hM]; omega
  · rw [hM]; omega
  · rw [hM]; omega
  · rw [hM]; omega
theorem t_close {e : Int} (hl : 1 ≤ law ∧ law ≤ 3) (hO : Ops 5 O) (he : (e = 40 ∧ kd p = 30) ∨ (e = 43 ∧ kd p = 7)) : To kd nb nx (law, on, n, O ++ e :: L, true, p) (law, on, n, dr 7 L, true, nx p) := by
  have hM : vM (O ++ e :: L) = e := hO.kM.2.trans (vM_40 (by omega))
  have hK : vK (O ++ e :: L) = 0 := hO.kM.1.trans (vK_40 (by omega) (by omega))
  have hb : mbet (O ++ e :: L) (kd p) = -1 := by rw [bet_0 (by omega), hK, if_pos (by decide)]
  refine To.one ?_
  rw [mst_w hl]
  unfold mbeh
  rw [hb, if_neg (by decide), hM, if_pos (by omega), dr_1m (by omega) (hO.le (by decide))]
  rfl
theorem t_else (hl : 1 ≤ law ∧ law ≤ 3) (hO : Ops 5 O) (hk : kd p = 33) : To kd nb nx (law, on, n, O ++ 42 :: L, true, p) (law, on, n, 43 :: L, false, nx p) := by
  have hM : vM (O ++ 42 :: L) = 42 := hO.kM.2.trans (vM_40 (by omega))
  have hK : vK (O ++ 42 :: L) = 0 := hO.kM.1.trans (vK_40 (by omega) (by omega))
  have hb : mbet (O ++ 42 :: L) (kd p) = -1 := by rw [bet_0 (by omega), hK, if_pos (by decide)]
  refine To.one ?_
  rw [mst_w hl]
  unfold mbeh
  rw [hb, if_neg (by decide), hM, if_neg (by omega), if_neg (by omega), if_pos (by omega), dr_1m (by omega) (hO.le (by decide))]
  rfl
theorem vK_M {L : List Int} (h : vK L = 1) : vM L = 41 := vM_K.mpr h
abbrev isCmp (k : Int) : Prop := (21 ≤ k ∧ k ≤ 24) ∨ k = 34 ∨ k = 35
theorem cmpo_y {k : Int} (h : isCmp k) : 10 ≤ cmpo k ∧ cmpo k ≤ 15 := by
  have : k = 21 ∨ k = 22 ∨ k = 23 ∨ k = 24 ∨ k = 34 ∨ k = 35 := by omega
  rcases this with rfl | rfl | rfl | rfl | rfl | rfl <;> decide
theorem cmpo_n {k : Int} (h : ¬ isCmp k) : cmpo k = -1 := by
  unfold cmpo
  rw [if_neg (by omega), if_neg (by omega), if_neg (by omega), if_neg (by omega), if_neg (by omega), if_neg (by omega)]
theorem t_cmp (hl : 1 ≤ law ∧ law ≤ 3) (hO : Ops 5 O) (hL : vK L = 1 ∧ vR L ≤ 3) (hk : isCmp (kd p)) : To kd nb nx (law, on, n, O ++ L, true, p) (law, on, n, cmpo (kd p) :: L, false, nx p) := by
  have hc := cmpo_y hk
  have hC : vC (O ++ L) = 0 := hO.c5.trans (vC_lo hL.2)
  have hb : mbet (O ++ L) (kd p) = cmpo (kd p) := by rw [bet_0 (by omega), hO.kM.1, hL.1, if_neg (by decide), hC, if_pos (by decide)]
  refine To.one ?_
  rw [mst_w hl]
  unfold mbeh
  rw [hb, if_pos (by omega), rk_c hc.1 hc.2, (hO.le (by decide)).dq, dr_lt (by omega)]
theorem f_cmp (hl : 1 ≤ law ∧ law ≤ 3) (hO : Ops 5 O) (hL : vK L = 1 ∧ vR L ≤ 3) (hk : ¬ isCmp (kd p)) (hk2 : kd p < 25 ∨ 28 < kd p) : Run kd nb nx (law, on, n, O ++ L, true, p) (1, p) := by
  have hC : vC (O ++ L) = 0 := hO.c5.trans (vC_lo hL.2)
  have hM : vM (O ++ L) = 41 := hO.kM.2.trans (vK_M hL.1)
  refine beh_x hl ?_ ?_ ?_ ?_ ?_
  · rw [bet_0 hk2, hO.kM.1, hL.1, if_neg (by decide), hC, if_pos (by decide), cmpo_n hk]; decide
  · rw [hM]; omega
  · rw [hC]; omega
  · rw [hM]; omega
  · rw [hM]; omega
theorem t_and (hl : 1 ≤ law ∧ law ≤ 3) (hK : vK L = 1) (hC : vC L = 1) (hk : kd p = 9) : To kd nb nx (law, on, n, L, true, p) (law, on, n, 21 :: dr 2 L, false, nx p) := by
  have hb : mbet L (kd p) = 21 := by rw [bet_0 (by omega), hK, if_neg (by decide), hC, if_neg (by decide), if_pos hk]
  refine To.one ?_
  rw [mst_w hl]
  unfold mbeh
  rw [hb, if_pos (by decide), rk_21]
theorem t_or (hl : 1 ≤ law ∧ law ≤ 3) (hK : vK L = 1) (hC : vC L = 1) (hk : kd p = 8) : To kd nb nx (law, on, n, L, true, p) (law, on, n, 22 :: dr 1 L, false, nx p) := by
  have hb : mbet L (kd p) = 22 := by rw [bet_0 (by omega), hK, if_neg (by decide), hC, if_neg (by decide), if_neg (by omega), if_pos hk]
  refine To.one ?_
  rw [mst_w hl]
  unfold mbeh
  rw [hb, if_pos (by decide), rk_22]
theorem bet_n (hK : vK L = 1) (hC : vC L = 1) {k : Int} (hk : k < 25 ∨ 28 < k) (h9 : k ≠ 9) (h8 : k ≠ 8) : mbet L k = -1 := by
  rw [bet_0 hk, hK, if_neg (by decide), hC, if_neg (by decide), if_neg h9, if_neg h8]
theorem t_then (hl : 1 ≤ law ∧ law ≤ 3) (hO : Ops 1 O) (hC : vC (O ++ 41 :: L) = 1) (hk : kd p = 32) : To kd nb nx (law, on, n, O ++ 41 :: L, true, p) (law, on, n, 42 :: L, false, nx p) := by
  have hM : vM (O ++ 41 :: L) = 41 := hO.kM.2.trans (vM_40 (by omega))
  have hK : vK (O ++ 41 :: L) = 1 := vM_K.mp hM
  refine To.one ?_
  rw [mst_w hl]
  unfold mbeh
  rw [bet_n hK hC (by omega) (by omega) (by omega), if_neg (by decide), hM, if_neg (by omega), if_pos ⟨hk, rfl, hC⟩, dr_1m (by omega) hO]
  rfl
theorem f_then (hl : 1 ≤ law ∧ law ≤ 3) (hK : vK L = 1) (hC : vC L = 1) (hk : kd p < 25 ∨ 28 < kd p) (hx : kd p ≠ 9 ∧ kd p ≠ 8 ∧ kd p ≠ 32) : Run kd nb nx (law, on, n, L, true, p) (1, p) := by
  have hM := vK_M hK
  refine beh_x hl ?_ ?_ ?_ ?_ ?_
  · rw [bet_n hK hC hk hx.1 hx.2.1]; decide
  · rw [hM]; omega
  · omega
  · rw [hM]; omega
  · rw [hM]; omega
theorem t_done (hl : 1 ≤ law ∧ law ≤ 3) (hO : Ops 5 O) (hk : kd p < 25 ∨ 28 < kd p) : To kd nb nx (law, on, n, O, true, p) (6, on, n + 1, [], false, p) := by
  have hM : vM O = -1 := by have := hO.kM (L := []); rw [List.append_nil] at this; exact this.2
  have hK : vK O = 0 := by have := hO.kM (L := []); rw [List.append_nil] at this; exact this.1
  have hb : mbet O (kd p) = -1 := by rw [bet_0 hk, hK, if_pos (by decide)]
  refine To.one ?_
  rw [mst_w hl]
  unfold mbeh
  rw [hb, if_neg (by decide), hM, if_neg (by omega), if_neg (by omega), if_neg (by omega), if_pos rfl]
theorem mst_0 : mst kd nb nx (0, on, n, L, false, p) = mcl on n p (nx p) (kd p) := by
  unfold mst
  rw [if_pos (show (0 : Int) = 0 from rfl)]
theorem mst_6 : mst kd nb nx (6, on, n, L, false, p) = msem on n p (nx p) (kd p) := by
  unfold mst
  rw [if_neg (show ¬ (6 : Int) = 0 by decide), if_neg (show ¬ (6 : Int) = 4 by decide), if_neg (show ¬ (6 : Int) = 5 by decide), if_pos (show (6 : Int) = 6 from rfl)]
theorem mst_4 : mst kd nb nx (4, on, n, L, false, p) = mnum on n p (nx p) (kd p) (nb p) 0 5 := by
  unfold mst
  rw [if_neg (show ¬ (4 : Int) = 0 by decide), if_pos (show (4 : Int) = 4 from rfl)]
theorem mst_5 : mst kd nb nx (5, on, n, L, false, p) = mnum on n p (nx p) (kd p) (nb p) 1 99 := by
  unfold mst
  rw [if_neg (show ¬ (5 : Int) = 0 by decide), if_neg (show ¬ (5 : Int) = 4 by decide), if_pos (show (5 : Int) = 5 from rfl)]
theorem r_end (hk : kd p = 37) : Run kd nb nx (0, on, n, L, false, p) (0, p) := Run.fin (by rw [mst_0]; unfold mcl; rw [if_pos hk])
theorem r_cl1 (hk : kd p ≠ 37) (h : kd p < 1 ∨ 5 < kd p) : Run kd nb nx (0, on, n, L, false, p) (1, p) := Run.fin (by rw [mst_0]; unfold mcl; rw [if_neg hk, if_pos h])
theorem r_cl4 (h : 1 ≤ kd p ∧ kd p ≤ 3) (ho : on (kd p) = true) : Run kd nb nx (0, on, n, L, false, p) (4, p) := Run.fin (by rw [mst_0]; unfold mcl; rw [if_neg (by omega), if_neg (by omega), if_pos ⟨h.2, ho⟩])
theorem r_cl6 (h : 1 ≤ kd p ∧ kd p ≤ 5) (ho : ¬ (kd p ≤ 3 ∧ on (kd p) = true)) (hn : n = 24) : Run kd nb nx (0, on, n, L, false, p) (6, p) := Run.fin (by rw [mst_0]; unfold mcl; rw [if_neg (by omega), if_neg (by omega), if_neg ho, if_pos hn])
theorem t_law (h : 1 ≤ kd p ∧ kd p ≤ 3) (ho : on (kd p) ≠ true) (hn : n ≠ 24) : To kd nb nx (0, on, n, L, false, p) (kd p, fun j => if j = kd p then true else on j, n, [], false, nx p) := To.one (by
  rw [mst_0]; unfold mcl; rw [if_neg (by omega), if_neg (by omega), if_neg (fun q => ho q.2), if_neg hn, if_pos h.2])
theorem t_order (h : kd p = 4 ∨ kd p = 5) (hn : n ≠ 24) : To kd nb nx (0, on, n, L, false, p) (kd p, on, n, [], false, nx p) := To.one (by
  rw [mst_0]; unfold mcl; rw [if_neg (by omega), if_neg (by omega), if_neg (by omega), if_neg hn, if_neg (by omega)])
theorem t_sem (hk : kd p = 31) : To kd nb nx (6, on, n, L, false, p) (0, on, n, [], false, nx p) := To.one (by rw [mst_6]; unfold msem; rw [if_pos hk])
theorem f_sem (hk : kd p ≠ 31) : Run kd nb nx (6, on, n, L, false, p) (1, p) := Run.fin (by rw [mst_6]; unfold msem; rw [if_neg hk])
theorem mst_o {o lo hi : Int} (ho : (o = 4 ∧ lo = 0 ∧ hi = 5) ∨ (o = 5 ∧ lo = 1 ∧ hi = 99)) : mst kd nb nx (o, on, n, L, false, p) = mnum on n p (nx p) (kd p) (nb p) lo hi := by
  rcases ho with ⟨rfl, rfl, rfl⟩ | ⟨rfl, rfl, rfl⟩
  · exact mst_4
  · exact mst_5
theorem f_fig1 {o lo hi : Int} (ho : (o = 4 ∧ lo = 0 ∧ hi = 5) ∨ (o = 5 ∧ lo = 1 ∧ hi = 99)) (hk : kd p ≠ 36) : Run kd nb nx (o, on, n, L, false, p) (1, p) := Run.fin (by rw [mst_o ho]; unfold mnum; rw [if_pos hk])
theorem f_fig2 {o lo hi : Int} (ho : (o = 4 ∧ lo = 0 ∧ hi = 5) ∨ (o = 5 ∧ lo = 1 ∧ hi = 99)) (hk : kd p = 36) (hv : nb p < lo ∨ hi < nb p) : Run kd nb nx (o, on, n, L, false, p) (2, p) := Run.fin (by rw [mst_o ho]; unfold mnum; rw [if_neg (by omega), if_pos hv])
theorem t_fig {o lo hi : Int} (ho : (o = 4 ∧ lo = 0 ∧ hi = 5) ∨ (o = 5 ∧ lo = 1 ∧ hi = 99)) (hk : kd p = 36) (hv : lo ≤ nb p ∧ nb p ≤ hi) : To kd nb nx (o, on, n, L, false, p) (6, on, n + 1, [], false, nx p) := To.one (by rw [mst_o ho]; unfold mnum; rw [if_neg (by omega), if_neg (by omega)])
theorem t_val (hl : 1 ≤ law ∧ law ≤ 3) (h : (kd p = 36 ∧ nb p ≤ 9999) ∨ ((11 ≤ kd p ∧ kd p ≤ 18) ∧ nmOK law (kd p))) : To kd nb nx (law, on, n, L, false, p) (law, on, n, dr 7 L, true, nx p) := by
  rcases h with h | h
  · exact t_num hl h.1 h.2
  · exact t_name hl h.1 h.2
theorem t_open {e : Int} (hl : 1 ≤ law ∧ law ≤ 3) (h : (kd p = 29 ∧ e = 40) ∨ (kd p = 26 ∧ e = 2) ∨ (kd p = 6 ∧ e = 41) ∨ (kd p = 10 ∧ e = 20 ∧ vK L = 1 ∧ vR L ≤ 3)) (hv : vO L ≠ 8) : To kd nb nx (law, on, n, L, false, p) (law, on, n, e :: L, false, nx p) := by
  rcases h with ⟨h, rfl⟩ | ⟨h, rfl⟩ | ⟨h, rfl⟩ | ⟨h, rfl, h1, h2⟩
  · exact t_paren hl h hv
  · exact t_minus hl h hv
  · exact t_if hl h hv
  · exact t_not hl h ⟨h1, h2⟩ hv
theorem f_open {e : Int} (hl : 1 ≤ law ∧ law ≤ 3) (h : (kd p = 29 ∧ e = 40) ∨ (kd p = 26 ∧ e = 2) ∨ (kd p = 6 ∧ e = 41) ∨ (kd p = 10 ∧ e = 20 ∧ vK L = 1 ∧ vR L ≤ 3)) (hv : vO L = 8) : Run kd nb nx (law, on, n, L, false, p) (3, p) := by
  rcases h with ⟨h, rfl⟩ | ⟨h, rfl⟩ | ⟨h, rfl⟩ | ⟨h, rfl, h1, h2⟩
  · exact f_open3 hl (Or.inl h) hv
  · exact f_open3 hl (Or.inr (Or.inl h)) hv
  · exact f_open3 hl (Or.inr (Or.inr h)) hv
  · exact f_not hl h ⟨h1, h2⟩ hv
/-- an operator behind a whole one -/
theorem t_betw (hl : 1 ≤ law ∧ law ≤ 3) (h : 0 ≤ mbet L (kd p)) : To kd nb nx (law, on, n, L, true, p) (law, on, n, mbet L (kd p) :: dr (rk (mbet L (kd p))) L, false, nx p) := To.one (by
  rw [mst_w hl]; unfold mbeh; rw [if_pos h])
theorem t_pop (hl : 1 ≤ law ∧ law ≤ 3) (hb : mbet L (kd p) < 0) (h : (kd p = 30 ∧ vM L = 40) ∨ (kd p = 7 ∧ vM L = 43)) : To kd nb nx (law, on, n, L, true, p) (law, on, n, dr 7 (dr 1 L).tail, true, nx p) := To.one (by
  rw [mst_w hl]; unfold mbeh; rw [if_neg (by omega), if_pos h])
theorem t_turn (hl : 1 ≤ law ∧ law ≤ 3) (hb : mbet L (kd p) < 0) (h : (kd p = 32 ∧ vM L = 41 ∧ vC L = 1) ∨ (kd p = 33 ∧ vM L = 42)) : To kd nb nx (law, on, n, L, true, p) (law, on, n, (vM L + 1) :: (dr 1 L).tail, false, nx p) := To.one (by
  rw [mst_w hl]; unfold mbeh
  rcases h with h | h
  · rw [if_neg (by omega), if_neg (by omega), if_pos h, h.2.1]; rfl
  · rw [if_neg (by omega), if_neg (by omega), if_neg (by omega), if_pos h, h.2]; rfl)
theorem t_none (hl : 1 ≤ law ∧ law ≤ 3) (hb : mbet L (kd p) < 0) (h : vM L = -1) : To kd nb nx (law, on, n, L, true, p) (6, on, n + 1, [], false, p) := To.one (by
  rw [mst_w hl]; unfold mbeh; rw [if_neg (by omega), if_neg (by omega), if_neg (by omega), if_neg (by omega), if_pos h])
end MTR
/-- what begin and behind come to, with the tape's tokens -/
abbrev RunB (b : Nat → Int) (c : Cg) (r : Int × Nat) : Prop := Run (kdr b) (nbr b) (nxt b) c r
abbrev ToB (b : Nat → Int) (c c2 : Cg) : Prop := To (kdr b) (nbr b) (nxt b) c c2
def BegP (b : Nat → Int) (law : Int) (L L2 : List Int) (p p2 : Nat) (r : Int) (w : Bool) : Prop := (r ≠ 0 ∧ p2 = p ∧ ∀ on n, RunB b (law, on, n, L, false, p) (r, p)) ∨ (r = 0 ∧ p2 = nxt b p ∧ ∀ on n, ToB b (law, on, n, L, false, p) (law, on, n, L2, w, p2))
def BehP (b : Nat → Int) (law : Int) (L L2 : List Int) (p p2 : Nat) (r : Int) (w : Bool) : Prop := (r = 0 ∧ p2 = p ∧ L2 = L ∧ (vM L ≠ -1 → ∀ on n, RunB b (law, on, n, L, true, p) (1, p)) ∧ (vM L = -1 → ∀ on n, ToB b (law, on, n, L, true, p) (6, on, n + 1, [], false, p))) ∨ (r = 1 ∧ p2 = nxt b p ∧ ∀ on n, ToB b (law, on, n, L, true, p) (law, on, n, L2, w, p2))
def MoP (b : Nat → Int) (law : Int) (L : List Int) (p : Nat) (mo : Int) : Prop := mo = 1 ∨ (mo = 0 ∧ (vM L ≠ -1 → ∀ on n, RunB b (law, on, n, L, true, p) (1, p)) ∧ (vM L = -1 → ∀ on n, ToB b (law, on, n, L, true, p) (6, on, n + 1, [], false, p)))
def ParP (b : Nat → Int) (law : Int) (p p2 : Nat) (r : Int) : Prop := (r ≠ 0 ∧ ∀ on n, RunB b (law, on, n, [], false, p) (r, p2)) ∨ (r = 0 ∧ ∀ on n, ToB b (law, on, n, [], false, p) (6, on, n + 1, [], false, p2))
def FigP (b : Nat → Int) (lo hi : Int) (p p2 : Nat) (r : Int) : Prop := ∀ (o : Int) (on : Int → Bool) (n : Int), ((o = 4 ∧ lo = 0 ∧ hi = 5) ∨ (o = 5 ∧ lo = 1 ∧ hi = 99)) → (r ≠ 0 ∧ p2 = p ∧ RunB b (o, on, n, [], false, p) (r, p)) ∨ (r = 0 ∧ ToB b (o, on, n, [], false, p) (6, on, n + 1, [], false, p2))
section PRS
variable {b : Nat → Int} {law r : Int} {L L2 : List Int} {p0 p p2 : Nat} {w : Bool}
theorem par_beh (hto : ∀ on n, ToB b (law, on, n, [], false, p0) (law, on, n, L, true, p)) (h : BehP b law L L2 p p2 r w) (hw : r = 0 → w = true) : (∀ on n, ToB b (law, on, n, [], false, p0) (law, on, n, L2, w, p2)) ∧ MoP b law L2 p2 r := by
  rcases h with ⟨h1, h2, h3, h4, h5⟩ | ⟨h1, h2, h3⟩
  · subst h2 h3
    rw [hw h1]
    exact ⟨hto, Or.inr ⟨h1, h4, h5⟩⟩
  · exact ⟨fun on n => (hto on n).tr (h3 on n), Or.inl h1⟩
theorem par_beg (hto : ∀ on n, ToB b (law, on, n, [], false, p0) (law, on, n, L, false, p)) (h : BegP b law L L2 p p2 r w) : (r ≠ 0 ∧ ∀ on n, RunB b (law, on, n, [], false, p0) (r, p2)) ∨ (r = 0 ∧ ∀ on n, ToB b (law, on, n, [], false, p0) (law, on, n, L2, w, p2)) := by
  rcases h with ⟨h1, h2, h3⟩ | ⟨h1, h2, h3⟩
  · subst h2
    exact Or.inl ⟨h1, fun on n => hto on n _ (h3 on n)⟩
  · exact Or.inr ⟨h1, fun on n => (hto on n).tr (h3 on n)⟩
end PRS
/-- the laws that were told, as bits -/
def obit (x k : Int) : Bool := if k = 1 then decide (x % 2 = 1) else if k = 2 then decide (x / 2 % 2 = 1) else if k = 3 then decide (x / 4 % 2 = 1) else false
def ONC (x : Int) (on : Int → Bool) : Prop := (0 ≤ x ∧ x ≤ 7) ∧ ∀ k, 1 ≤ k → k ≤ 3 → on k = obit x k
theorem onc_8 {x : Int32} (h : 0 ≤ x.toInt ∧ x.toInt ≤ 7) : x = 0 ∨ x = 1 ∨ x = 2 ∨ x = 3 ∨ x = 4 ∨ x = 5 ∨ x = 6 ∨ x = 7 := by
  have : x.toInt = 0 ∨ x.toInt = 1 ∨ x.toInt = 2 ∨ x.toInt = 3 ∨ x.toInt = 4 ∨ x.toInt = 5 ∨ x.toInt = 6 ∨ x.toInt = 7 := by omega
  rcases this with q | q | q | q | q | q | q | q
  · exact Or.inl (Int32.toInt_inj.mp (q.trans (by decide)))
  · exact Or.inr (Or.inl (Int32.toInt_inj.mp (q.trans (by decide))))
  · exact Or.inr (Or.inr (Or.inl (Int32.toInt_inj.mp (q.trans (by decide)))))
  · exact Or.inr (Or.inr (Or.inr (Or.inl (Int32.toInt_inj.mp (q.trans (by decide))))))
  · exact Or.inr (Or.inr (Or.inr (Or.inr (Or.inl (Int32.toInt_inj.mp (q.trans (by decide)))))))
  · exact Or.inr (Or.inr (Or.inr (Or.inr (Or.inr (Or.inl (Int32.toInt_inj.mp (q.trans (by decide))))))))
  · exact Or.inr (Or.inr (Or.inr (Or.inr (Or.inr (Or.inr (Or.inl (Int32.toInt_inj.mp (q.trans (by decide)))))))))
  · exact Or.inr (Or.inr (Or.inr (Or.inr (Or.inr (Or.inr (Or.inr (Int32.toInt_inj.mp (q.trans (by decide)))))))))
theorem i32_3 {j : Int32} (h : 0 ≤ j.toInt ∧ j.toInt ≤ 2) : j = 0 ∨ j = 1 ∨ j = 2 := by
  have : j.toInt = 0 ∨ j.toInt = 1 ∨ j.toInt = 2 := by omega
  rcases this with q | q | q
  · exact Or.inl (Int32.toInt_inj.mp (q.trans (by decide)))
  · exact Or.inr (Or.inl (Int32.toInt_inj.mp (q.trans (by decide))))
  · exact Or.inr (Or.inr (Int32.toInt_inj.mp (q.trans (by decide))))
theorem onc_t {x j : Int32} (h : 0 ≤ x.toInt ∧ x.toInt ≤ 7) (hj : 0 ≤ j.toInt ∧ j.toInt ≤ 2) : ((x >>> (j &&& 31)) &&& 1).toInt = 1 ↔ obit x.toInt (j.toInt + 1) = true := by
  rcases onc_8 h with rfl | rfl | rfl | rfl | rfl | rfl | rfl | rfl <;> rcases i32_3 hj with rfl | rfl | rfl <;> decide
theorem onc_u {x j : Int32} (h : 0 ≤ x.toInt ∧ x.toInt ≤ 7) (hj : 0 ≤ j.toInt ∧ j.toInt ≤ 2) : (0 ≤ (x ||| ((1 : Int32) <<< (j &&& 31))).toInt ∧ (x ||| ((1 : Int32) <<< (j &&& 31))).toInt ≤ 7) ∧ ∀ k : Int, (k = 1 ∨ k = 2 ∨ k = 3) → obit (x ||| ((1 : Int32) <<< (j &&& 31))).toInt k = if k = j.toInt + 1 then true else obit x.toInt k := by
  rcases onc_8 h with rfl | rfl | rfl | rfl | rfl | rfl | rfl | rfl <;> rcases i32_3 hj with rfl | rfl | rfl <;> (refine ⟨by decide, ?_⟩; rintro k (rfl | rfl | rfl) <;> decide)
theorem ONC.up {x j : Int32} {on : Int → Bool} (h : ONC x.toInt on) (hj : 0 ≤ j.toInt ∧ j.toInt ≤ 2) : ONC (x ||| ((1 : Int32) <<< (j &&& 31))).toInt (fun k => if k = j.toInt + 1 then true else on k) := by
  have u := onc_u h.1 hj
  refine ⟨u.1, fun k h1 h2 => ?_⟩
  show (if k = j.toInt + 1 then true else on k) = _
  rw [u.2 k (by omega), h.2 k h1 h2]
def ClP (b : Nat → Int) (on : Int → Bool) (n : Int) (p p2 : Nat) (r x2 n2 : Int) : Prop := (r ≠ 0 ∧ RunB b (0, on, n, [], false, p) (r, p2)) ∨ (r = 0 ∧ ∃ on2 : Int → Bool, ONC x2 on2 ∧ n2 = n + 1 ∧ ToB b (0, on, n, [], false, p) (0, on2, n2, [], false, p2))
abbrev Cg0 (b : Nat → Int) : Cg := (0, fun _ => false, 0, [], false, sp pB b 302 0)
def TxP (b : Nat → Int) (k fu fp td r k2 fu2 fp2 td2 : Int) : Prop := (k = 4 ∧ r = -1 ∧ k2 = k ∧ fu2 = fu ∧ fp2 = fp ∧ td2 = td) ∨ (k < 4 ∧ td2 = 0 ∧ ∃ p : Nat, RunB b (Cg0 b) (fu2, p) ∧ ((fu2 ≠ 0 ∧ fp2 = (p : Int) ∧ r = -1 ∧ k2 = k) ∨ (fu2 = 0 ∧ fp2 = -1 ∧ r = k ∧ k2 = k + 1)))
theorem TxP.det {b : Nat → Int} {k fu fp td r k2 fu2 fp2 td2 r' k2' fu2' fp2' td2' : Int} (h : TxP b k fu fp td r k2 fu2 fp2 td2) (h' : TxP b k fu fp td r' k2' fu2' fp2' td2') : r = r' ∧ k2 = k2' ∧ fu2 = fu2' ∧ fp2 = fp2' ∧ td2 = td2' := by
  rcases h with h | ⟨h1, h2, p, h3, h4⟩ <;> rcases h' with h' | ⟨h1', h2', p', h3', h4'⟩
  · omega
  · omega
  · omega
  · have e := Run.det h3 h3'
    have e1 : fu2 = fu2' := congrArg Prod.fst e
    have e2 : p = p' := congrArg Prod.snd e
    subst e1 e2
    omega
theorem ONC.none : ONC 0 (fun _ => false) := ⟨by decide, fun k h1 h2 => by
  have : k = 1 ∨ k = 2 ∨ k = 3 := by omega
  rcases this with rfl | rfl | rfl <;> decide⟩

/-! ===== the constants' bytes, and what the class's tape finds in them ===== -/
def SB (k i : Nat) : Int := ((bytS.getD k []).getD i 0).toInt
theorem SB0_rng : ∀ i : Nat, i < 13 → 35 ≤ SB 0 i ∧ SB 0 i ≤ 63 := by decide
theorem SB0_k : ∀ i : Nat, i < 13 → kindS (SB 0 i) 0 = 21 + (i : Int) := by decide
theorem kindS_none (c : Int) (h : ∀ i : Nat, i < 13 → SB 0 i ≠ c) : kindS c 0 = 38 := by
  have h0 := h 0 (by decide)
  have h1 := h 1 (by decide)
  have h2 := h 2 (by decide)
  have h3 := h 3 (by decide)
  have h4 := h 4 (by decide)
  have h5 := h 5 (by decide)
  have h6 := h 6 (by decide)
  have h7 := h 7 (by decide)
  have h8 := h 8 (by decide)
  have h9 := h 9 (by decide)
  have h10 := h 10 (by decide)
  have h11 := h 11 (by decide)
  have h12 := h 12 (by decide)
  rw [show SB 0 0 = 60 by decide] at h0
  rw [show SB 0 1 = 62 by decide] at h1
  rw [show SB 0 2 = 61 by decide] at h2
  rw [show SB 0 3 = 35 by decide] at h3
  rw [show SB 0 4 = 43 by decide] at h4
  rw [show SB 0 5 = 45 by decide] at h5
  rw [show SB 0 6 = 42 by decide] at h6
  rw [show SB 0 7 = 47 by decide] at h7
  rw [show SB 0 8 = 40 by decide] at h8
  rw [show SB 0 9 = 41 by decide] at h9
  rw [show SB 0 10 = 59 by decide] at h10
  rw [show SB 0 11 = 63 by decide] at h11
  rw [show SB 0 12 = 58 by decide] at h12
  unfold kindS
  rw [if_neg (Ne.symm h0), if_neg (Ne.symm h1), if_neg (Ne.symm h2), if_neg (Ne.symm h3), if_neg (Ne.symm h4), if_neg (Ne.symm h5), if_neg (Ne.symm h6), if_neg (Ne.symm h7), if_neg (Ne.symm h8), if_neg (Ne.symm h9), if_neg (Ne.symm h10), if_neg (Ne.symm h11), if_neg (Ne.symm h12)]
theorem kindS_nw {c d : Int} (h : ¬ ((c = 60 ∨ c = 62) ∧ d = 61)) : kindS c d = kindS c 0 := by
  unfold kindS
  by_cases h1 : c = 60
  · rw [if_pos h1, if_pos h1, if_neg (by omega), if_neg (by decide)]
  · by_cases h2 : c = 62
    · rw [if_neg h1, if_pos h2, if_neg h1, if_pos h2, if_neg (by omega), if_neg (by decide)]
    · rw [if_neg h1, if_neg h2, if_neg h1, if_neg h2]
theorem SB1_c : ∀ i : Nat, i < 88 → ((bytS.getD 1 []).getD i 0 &&& 255).toInt = SB 1 i := by decide +kernel
def WI : Nat → Int
  | 0 => 1
  | j + 1 => if SB 1 j = 32 then WI j + 1 else WI j
def WB : Nat → Int
  | 0 => 0
  | j + 1 => if SB 1 j = 32 then (j : Int) + 1 else WB j
theorem WI_88 : WI 88 = 19 := by decide +kernel
theorem WI_rng : ∀ j : Nat, j < 88 → 1 ≤ WI j ∧ WI j ≤ 18 := by decide +kernel
theorem WB_rng : ∀ j : Nat, j < 88 → 0 ≤ WB j ∧ WB j ≤ (j : Int) := by decide +kernel
theorem WW_eq : ∀ j : Nat, j < 88 → SB 1 j = 32 → wdr (SB 1) (WB j).toNat (j - (WB j).toNat) = wk (WI j) := by decide +kernel
theorem wdr_congr {b c : Nat → Int} {p q : Nat} : ∀ k : Nat, (∀ i, i < k → b (p + i) = c (q + i)) → wdr b p k = wdr c q k := by
  intro k
  induction k with
  | zero => intro _; rfl
  | succ k ih =>
    intro h
    show b (p + k) :: wdr b p k = c (q + k) :: wdr c q k
    rw [h k (by omega), ih (fun i hi => h i (by omega))]
theorem wdr_inj {b c : Nat → Int} {p q : Nat} : ∀ k : Nat, wdr b p k = wdr c q k → ∀ i, i < k → b (p + i) = c (q + i) := by
  intro k
  induction k with
  | zero => intro _ i hi; exact absurd hi (Nat.not_lt_zero _)
  | succ k ih =>
    intro h i hi
    have h2 : b (p + k) :: wdr b p k = c (q + k) :: wdr c q k := h
    injection h2 with h3 h4
    by_cases e : i = k
    · subst e; exact h3
    · exact ih h4 i (by omega)
theorem kindL_none {l : List Int} (h : ∀ k : Int, 1 ≤ k → k < 19 → l ≠ wk k) : kindL l = 38 := by
  rcases kindL_inv l with q | q
  · exact q
  · exact absurd q.2.2 (h _ q.1 (by omega))
theorem i2b_f {x : Int32} (h : 0 ≤ x.toInt ∧ x.toInt ≤ 255) : (x.toInt < 128 ∧ x.toInt8.toInt32.toInt = x.toInt) ∨ (128 ≤ x.toInt ∧ x.toInt8.toInt32.toInt < 0) := by
  have e : x.toInt8.toInt32.toInt = x.toInt.bmod (2 ^ 8) := by rw [Int8.toInt_toInt32, Int32.toInt_toInt8]
  rw [e, Int.bmod_def]
  split <;> omega
theorem i2c_id {x : Int32} (h : 0 ≤ x.toInt ∧ x.toInt ≤ 255) : (x.toUInt32 % 65536).toInt32 = x := by
  have e1 : (x.toBitVec.toNat : Int) = x.toInt := by
    have e : x.toInt = x.toBitVec.toInt := rfl
    have hl := x.toBitVec.isLt
    have h1 := h.1
    rw [e, BitVec.toInt_eq_toNat_cond] at h1 ⊢
    split at h1
    · rw [if_pos (by assumption)]
    · omega
  have e2 : x.toUInt32 % 65536 = x.toUInt32 := by
    apply UInt32.toNat_inj.mp
    rw [UInt32.toNat_mod]
    have e3 : x.toUInt32.toNat = x.toBitVec.toNat := rfl
    rw [e3]
    exact Nat.mod_eq_of_lt (by show _ < 65536; omega)
  rw [e2]
  rfl
/-- a span that ends is what sp finds -/
def Spn (b : Nat → Int) (p q : Nat) : Prop := p ≤ q ∧ (∀ j, p ≤ j → j < q → isBl (b j)) ∧ ¬ isBl (b q)
theorem Spn.sp {b : Nat → Int} {p q : Nat} (h : Spn b p q) (hq : q - p < 302) : sp pB b 302 p = q := sp_eq 302 p q h.1 hq (fun j a c => pB_t (h.2.1 j a c)) (pB_f h.2.2)
theorem Spn.ex {b : Nat → Int} {n : Nat} (hn : n ≤ 300) (hb : b n = -1) : ∀ (k p : Nat), n - p = k → p ≤ n → ∃ q, Spn b p q ∧ q ≤ n := by
  intro k
  induction k with
  | zero => intro p h1 h2; exact ⟨p, ⟨Nat.le_refl _, fun j a c => absurd c (by omega), by rw [show p = n by omega, hb]; omega⟩, h2⟩
  | succ k ih =>
    intro p h1 h2
    by_cases hbl : isBl (b p)
    · obtain ⟨q, ⟨q1, q2, q3⟩, q4⟩ := ih (p + 1) (by omega) (by omega)
      refine ⟨q, ⟨by omega, fun j a c => ?_, q3⟩, q4⟩
      by_cases e : j = p
      · subst e; exact hbl
      · exact q2 j (by omega) c
    · exact ⟨p, ⟨Nat.le_refl _, fun j a c => absurd c (by omega), hbl⟩, h2⟩
theorem kindS_37 (c d : Int) : kindS c d ≠ 37 := by
  unfold kindS
  repeat' split
  all_goals decide
theorem kindS_36 (c d : Int) : kindS c d ≠ 36 := by
  unfold kindS
  repeat' split
  all_goals decide
theorem Spn.here {b : Nat → Int} {p q : Nat} (h : Spn b p q) (hn : ¬ isBl (b p)) : q = p := by
  by_cases e : q = p
  · exact e
  · exact absurd (h.2.1 p (Nat.le_refl _) (by have := h.1; omega)) hn
theorem Spn.blank {b : Nat → Int} {p q : Nat} (h : Spn b p q) (hb : isBl (b p)) : Spn b (p + 1) q := by
  have h1 := h.1
  by_cases e : q = p
  · subst e; exact absurd hb h.2.2
  · exact ⟨by omega, fun j a c => h.2.1 j (by omega) c, h.2.2⟩
theorem Spn.last {b : Nat → Int} {p q n : Nat} (h : Spn b p q) (hp : n ≤ p) (hb : b n = -1) (hq : q ≤ n) : q = n := by
  have := h.1; omega
/-- the tokens that were split off so far; E is where the next one begins -/
def TOKA (b : Nat → Int) (fk fa fn : Nat → Int32) (m E : Nat) : Prop := (∀ t, t < m → (0 ≤ (fa t).toInt ∧ (fa t).toInt ≤ 300) ∧ (fk t).toInt = kdr b (fa t).toInt.toNat ∧ (kdr b (fa t).toInt.toNat = 36 → (fn t).toInt = nbr b (fa t).toInt.toNat) ∧ kdr b (fa t).toInt.toNat ≠ 37) ∧ (0 < m → (fa 0).toInt.toNat = sp pB b 302 0) ∧ (∀ t, t + 1 < m → (fa (t + 1)).toInt.toNat = nxt b (fa t).toInt.toNat) ∧ E = (if m = 0 then sp pB b 302 0 else nxt b (fa (m - 1)).toInt.toNat)
/-- all tokens, the end of the text at last -/
def TOKS (b : Nat → Int) (fk fa fn : Nat → Int32) (m : Nat) : Prop := 0 < m ∧ (∀ t, t < m → (0 ≤ (fa t).toInt ∧ (fa t).toInt ≤ 300) ∧ (fk t).toInt = kdr b (fa t).toInt.toNat ∧ (kdr b (fa t).toInt.toNat = 36 → (fn t).toInt = nbr b (fa t).toInt.toNat)) ∧ (fa 0).toInt.toNat = sp pB b 302 0 ∧ (∀ t, t + 1 < m → (fa (t + 1)).toInt.toNat = nxt b (fa t).toInt.toNat ∧ kdr b (fa t).toInt.toNat ≠ 37) ∧ kdr b (fa (m - 1)).toInt.toNat = 37
theorem TOKA.nil {b : Nat → Int} {fk fa fn : Nat → Int32} {E : Nat} (h : sp pB b 302 0 = E) : TOKA b fk fa fn 0 E := ⟨fun t ht => absurd ht (Nat.not_lt_zero _), fun h => absurd h (Nat.lt_irrefl _), fun t ht => absurd ht (Nat.not_lt_zero _), h.symm⟩
theorem kdr_37 {b : Nat → Int} {p : Nat} (h : 0 ≤ b p) : kdr b p ≠ 37 := by
  unfold kdr
  rw [if_neg (by omega)]
  split
  · decide
  · split
    · rcases kindL_inv (wdr b p (sp pL b 302 p - p)) with q | q <;> omega
    · exact kindS_37 _ _
theorem TOKA.push {b : Nat → Int} {fk fa fn : Nat → Int32} {m E2 : Nat} {k v p : Int32} (h : TOKA b fk fa fn m p.toInt.toNat) (hp : 0 ≤ p.toInt ∧ p.toInt ≤ 300) (hb : 0 ≤ b p.toInt.toNat) (hk : k.toInt = kdr b p.toInt.toNat) (hv : kdr b p.toInt.toNat = 36 → v.toInt = nbr b p.toInt.toNat) (hE : sp pB b 302 (tend b p.toInt.toNat) = E2) : TOKA b (upd fk m k) (upd fa m p) (upd fn m v) (m + 1) E2 := by
  obtain ⟨h1, h2, h3, h4⟩ := h
  have ua : ∀ t, t < m → upd fa m p t = fa t := fun t ht => pk_un (by omega)
  have uk : ∀ t, t < m → upd fk m k t = fk t := fun t ht => pk_un (by omega)
  have un : ∀ t, t < m → upd fn m v t = fn t := fun t ht => pk_un (by omega)
  refine ⟨fun t ht => ?_, fun _ => ?_, fun t ht => ?_, ?_⟩
  · by_cases e : t = m
    · subst e
      rw [pk_us, pk_us, pk_us]
      exact ⟨hp, hk, hv, kdr_37 hb⟩
    · rw [ua t (by omega), uk t (by omega), un t (by omega)]
      exact h1 t (by omega)
  · by_cases e : m = 0
    · subst e
      rw [pk_us, h4, if_pos rfl]
    · rw [ua 0 (by omega)]
      exact h2 (by omega)
  · by_cases e : t + 1 = m
    · rw [e, pk_us, ua t (by omega), h4, if_neg (by omega), show m - 1 = t by omega]
    · rw [ua (t + 1) (by omega), ua t (by omega)]
      exact h3 t (by omega)
  · rw [if_neg (by omega), show m + 1 - 1 = m by omega, pk_us]
    exact hE.symm
theorem TOKA.last {b : Nat → Int} {fk fa fn : Nat → Int32} {m : Nat} {k v p : Int32} (h : TOKA b fk fa fn m p.toInt.toNat) (hp : 0 ≤ p.toInt ∧ p.toInt ≤ 300) (hk : k.toInt = 37) (hb : b p.toInt.toNat = -1) : TOKS b (upd fk m k) (upd fa m p) (upd fn m v) (m + 1) := by
  obtain ⟨h1, h2, h3, h4⟩ := h
  have hk37 : kdr b p.toInt.toNat = 37 := if_pos (by omega)
  have ua : ∀ t, t < m → upd fa m p t = fa t := fun t ht => pk_un (by omega)
  have uk : ∀ t, t < m → upd fk m k t = fk t := fun t ht => pk_un (by omega)
  have un : ∀ t, t < m → upd fn m v t = fn t := fun t ht => pk_un (by omega)
  refine ⟨by omega, fun t ht => ?_, ?_, fun t ht => ?_, ?_⟩
  · by_cases e : t = m
    · subst e
      rw [pk_us, pk_us, pk_us]
      exact ⟨hp, hk.trans hk37.symm, fun q => by omega⟩
    · rw [ua t (by omega), uk t (by omega), un t (by omega)]
      exact ⟨(h1 t (by omega)).1, (h1 t (by omega)).2.1, (h1 t (by omega)).2.2.1⟩
  · by_cases e : m = 0
    · subst e
      rw [pk_us, h4, if_pos rfl]
    · rw [ua 0 (by omega)]
      exact h2 (by omega)
  · by_cases e : t + 1 = m
    · rw [e, pk_us, ua t (by omega), h4, if_neg (by omega), show m - 1 = t by omega]
      exact ⟨rfl, (h1 t (by omega)).2.2.2⟩
    · rw [ua (t + 1) (by omega), ua t (by omega)]
      exact ⟨h3 t (by omega), (h1 t (by omega)).2.2.2⟩
  · rw [show m + 1 - 1 = m by omega, pk_us]
    exact hk37
/-- the reader at its token -/
def RST (b : Nat → Int) (fa : Nat → Int32) (m : Nat) (tk kd nb : Int32) : Prop := (0 ≤ tk.toInt ∧ tk.toInt.toNat < m) ∧ kd.toInt = kdr b (fa tk.toInt.toNat).toInt.toNat ∧ (kd.toInt = 36 → nb.toInt = nbr b (fa tk.toInt.toNat).toInt.toNat)
theorem sp_ge {P : Int → Bool} {b : Nat → Int} : ∀ (k p : Nat), p ≤ sp P b k p := by
  intro k
  induction k with
  | zero => intro p; exact Nat.le_refl _
  | succ k ih =>
    intro p
    show p ≤ (if P (b p) = true then sp P b k (p + 1) else p)
    split
    · have := ih (p + 1); omega
    · exact Nat.le_refl _
theorem sp_gt {P : Int → Bool} {b : Nat → Int} {k p : Nat} (h : P (b p) = true) : p < sp P b (k + 1) p := by
  show p < (if P (b p) = true then sp P b k (p + 1) else p)
  rw [if_pos h]
  have := sp_ge (P := P) (b := b) k (p + 1)
  omega
theorem nxt_gt (b : Nat → Int) (p : Nat) : p < nxt b p := by
  have h1 : p < tend b p := by
    unfold tend
    split
    · rename_i h; exact sp_gt (pD_t h)
    · split
      · rename_i h; exact sp_gt (pL_t h)
      · split <;> omega
  have h2 := sp_ge (P := pB) (b := b) 302 (tend b p)
  unfold nxt
  omega
theorem kd_word {b : Nat → Int} {p : Nat} {k : Int} (h : kdr b p = k) (hk : 1 ≤ k ∧ k ≤ 18) : tend b p = p + (wk k).length := by
  unfold kdr at h
  split at h
  · omega
  · split at h
    · omega
    · rename_i hd
      split at h
      · rename_i hl
        have hs := sp_ge (P := pL) (b := b) 302 p
        rcases kindL_inv (wdr b p (sp pL b 302 p - p)) with q | q
        · omega
        · have e : wdr b p (sp pL b 302 p - p) = wk k := by rw [← h]; exact q.2.2
          have e2 := congrArg List.length e
          rw [wdr_len] at e2
          unfold tend
          rw [if_neg hd, if_pos hl]
          omega
      · exfalso
        unfold kindS at h
        repeat' (split at h)
        all_goals omega
theorem nxt_if {b : Nat → Int} {p : Nat} (h : kdr b p = 6) : p + 2 ≤ nxt b p := by
  have h1 := kd_word h (by decide)
  rw [show (wk 6).length = 2 by decide] at h1
  have h2 := sp_ge (P := pB) (b := b) 302 (tend b p)
  unfold nxt
  omega
section RSTS
variable {b : Nat → Int} {fk fa fn : Nat → Int32} {m : Nat} {tk kd nb k2 n2 : Int32}
theorem RST.lt (hT : TOKS b fk fa fn m) (h : RST b fa m tk kd nb) (hk : kd.toInt ≠ 37) : tk.toInt.toNat + 1 < m := by
  obtain ⟨h1, -, -, -, h5⟩ := hT
  by_cases e : tk.toInt.toNat + 1 < m
  · exact e
  · exfalso
    have e2 : tk.toInt.toNat = m - 1 := by have := h.1.2; omega
    have := h.2.1
    rw [e2, h5] at this
    exact hk this
theorem RST.next (hT : TOKS b fk fa fn m) (h : RST b fa m tk kd nb) (hk : kd.toInt ≠ 37) {t2 : Int32} (ht : t2.toInt = tk.toInt + 1) (h1 : k2 = fk t2.toInt.toNat) (h2 : n2 = fn t2.toInt.toNat) : RST b fa m t2 k2 n2 ∧ (fa t2.toInt.toNat).toInt.toNat = nxt b (fa tk.toInt.toNat).toInt.toNat ∧ (fa tk.toInt.toNat).toInt < (fa t2.toInt.toNat).toInt := by
  have hlt := RST.lt hT h hk
  have h0 := h.1.1
  have e : t2.toInt.toNat = tk.toInt.toNat + 1 := by omega
  obtain ⟨-, q2, -, q4, -⟩ := hT
  have a := q2 t2.toInt.toNat (by omega)
  have a0 := q2 tk.toInt.toNat (by omega)
  have c := (q4 tk.toInt.toNat hlt).1
  rw [← e] at c
  refine ⟨⟨⟨by omega, by omega⟩, ?_, ?_⟩, c, ?_⟩
  · rw [h1]; exact a.2.1
  · intro q; rw [h2]; exact a.2.2 (by rw [← a.2.1, ← h1]; exact q)
  · have := nxt_gt b (fa tk.toInt.toNat).toInt.toNat
    have := a.1
    have := a0.1
    omega
theorem RST.pos (hT : TOKS b fk fa fn m) (h : RST b fa m tk kd nb) : 0 ≤ (fa tk.toInt.toNat).toInt ∧ (fa tk.toInt.toNat).toInt ≤ 300 := (hT.2.1 _ h.1.2).1
theorem RST.p300 (hT : TOKS b fk fa fn m) (h : RST b fa m tk kd nb) (hk : kd.toInt ≠ 37) : (fa tk.toInt.toNat).toInt < 300 := by
  have hlt := RST.lt hT h hk
  have a := (hT.2.1 (tk.toInt.toNat + 1) hlt).1
  have a0 := (hT.2.1 tk.toInt.toNat (by omega)).1
  have c := (hT.2.2.2.1 tk.toInt.toNat hlt).1
  have := nxt_gt b (fa tk.toInt.toNat).toInt.toNat
  omega
end RSTS
/-- what a method of the class's reader comes to -/
def RsP (b : Nat → Int) (law : Int) (L M : List Int) (p p2 : Nat) (r fa fb fa2 fb2 : Int) : Prop := (r = 0 ∧ 0 ≤ fb2 ∧ fa2 ≠ 0 ∧ ∀ on n, RunB b (law, on, n, L, false, p) (fa2, fb2.toNat)) ∨ (r = 1 ∧ fa2 = fa ∧ fb2 = fb ∧ ∀ on n, ToB b (law, on, n, L, false, p) (law, on, n, M, true, p2))
section RSPS
variable {b : Nat → Int} {law : Int} {L L1 M M1 : List Int} {p p1 p2 : Nat} {r fa fb fa2 fb2 : Int}
theorem RsP.fail (h : RsP b law L1 M1 p1 p2 r fa fb fa2 fb2) (hr : r ≠ 1) (h0 : ∀ on n, ToB b (law, on, n, L, false, p) (law, on, n, L1, false, p1)) : RsP b law L M p p2 0 fa fb fa2 fb2 := by
  rcases h with h | h
  · exact Or.inl ⟨rfl, h.2.1, h.2.2.1, fun on n => h0 on n _ (h.2.2.2 on n)⟩
  · exact absurd h.1 hr
theorem RsP.run {f : Int} {q : Nat} {fb2 : Int} (hb : 0 ≤ fb2) (hf : f ≠ 0) (hq : fb2.toNat = q) (h : ∀ on n, RunB b (law, on, n, L, false, p) (f, q)) : RsP b law L M p p2 0 fa fb f fb2 := Or.inl ⟨rfl, hb, hf, fun on n => by rw [hq]; exact h on n⟩
theorem RsP.to (h : RsP b law L1 M1 p1 p2 r fa fb fa2 fb2) (hr : r ≠ 0) : fa2 = fa ∧ fb2 = fb ∧ ∀ on n, ToB b (law, on, n, L1, false, p1) (law, on, n, M1, true, p2) := by
  rcases h with h | h
  · exact absurd h.1 hr
  · exact h.2
theorem RsP.pre (h : RsP b law L1 M p1 p2 r fa fb fa2 fb2) (h0 : ∀ on n, ToB b (law, on, n, L, false, p) (law, on, n, L1, false, p1)) : RsP b law L M p p2 r fa fb fa2 fb2 := by
  rcases h with h | h
  · exact Or.inl ⟨h.1, h.2.1, h.2.2.1, fun on n => h0 on n _ (h.2.2.2 on n)⟩
  · exact Or.inr ⟨h.1, h.2.1, h.2.2.1, fun on n => (h0 on n).tr (h.2.2.2 on n)⟩
theorem RsP.ok (h1 : fa2 = fa) (h2 : fb2 = fb) (h : ∀ on n, ToB b (law, on, n, L, false, p) (law, on, n, M, true, p2)) : RsP b law L M p p2 1 fa fb fa2 fb2 := Or.inr ⟨rfl, h1, h2, h⟩
end RSPS
theorem rk_p {k : Int} (h : k = 25 ∨ k = 26) : rk (k - 22) = 5 := by rcases h with rfl | rfl <;> decide
theorem rk_tt {k : Int} (h : k = 27 ∨ k = 28) : rk (k - 22) = 6 := by rcases h with rfl | rfl <;> decide
def ClQ (b : Nat → Int) (md : Int) (p p2 : Nat) (r fa fb fa2 fb2 : Int) : Prop := (r = 0 ∧ 0 ≤ fb2 ∧ fa2 ≠ 0 ∧ ∀ on n, RunB b (md, on, n, [], false, p) (fa2, fb2.toNat)) ∨ (r = 1 ∧ fa2 = fa ∧ fb2 = fb ∧ ∀ on n, ToB b (md, on, n, [], false, p) (0, on, n + 1, [], false, p2))
theorem ClQ.run {b : Nat → Int} {md f fa fb fb2 : Int} {p p2 q : Nat} (hb : 0 ≤ fb2) (hf : f ≠ 0) (hq : fb2.toNat = q) (h : ∀ on n, RunB b (md, on, n, [], false, p) (f, q)) : ClQ b md p p2 0 fa fb f fb2 := Or.inl ⟨rfl, hb, hf, fun on n => by rw [hq]; exact h on n⟩
/-- the laws that were told, by the places of their code -/
def ONL (flf flt : Nat → Int32) (on : Int → Bool) : Prop := ∀ k : Nat, 1 ≤ k → k ≤ 3 → (on (k : Int) = true ↔ (flf k).toInt < (flt k).toInt)
def ONU (flf flt flf2 flt2 : Nat → Int32) (k : Nat) : Prop := (flf2 k).toInt < (flt2 k).toInt ∧ ∀ j, j ≠ k → flf2 j = flf j ∧ flt2 j = flt j
theorem ONL.up {flf flt flf2 flt2 : Nat → Int32} {on : Int → Bool} {k : Nat} (h : ONL flf flt on) (hu : ONU flf flt flf2 flt2 k) : ONL flf2 flt2 (fun j => if j = (k : Int) then true else on j) := by
  intro j h1 h2
  show (if (j : Int) = (k : Int) then true else on (j : Int)) = true ↔ _
  by_cases e : j = k
  · subst e
    rw [if_pos rfl]
    exact ⟨fun _ => hu.1, fun _ => rfl⟩
  · rw [if_neg (by omega), (hu.2 j e).1, (hu.2 j e).2]
    exact h j h1 h2
def ClC (b : Nat → Int) (on : Int → Bool) (n : Int) (p p2 : Nat) (r fa fb fa2 fb2 : Int) (flf2 flt2 : Nat → Int32) : Prop := (r = 0 ∧ 0 ≤ fb2 ∧ fa2 ≠ 0 ∧ RunB b (0, on, n, [], false, p) (fa2, fb2.toNat)) ∨ (r = 1 ∧ fa2 = fa ∧ fb2 = fb ∧ ∃ on2, ONL flf2 flt2 on2 ∧ ToB b (0, on, n, [], false, p) (0, on2, n + 1, [], false, p2))
def RdP (b : Nat → Int) (fa fb : Int) : Prop := ∃ p : Nat, RunB b (Cg0 b) (fa, p) ∧ ((fa ≠ 0 ∧ fb = (p : Int)) ∨ (fa = 0 ∧ fb = -1))
def IsW (r p0 p1 p2 : Int) (f : Nat → Int32) : Prop := (r = 1 ∧ ∀ i : Nat, (i : Int) < p2 - p1 → SB 1 (p0.toNat + i) = (f (p1.toNat + i)).toInt) ∨ (r = 0 ∧ ∃ i : Nat, (i : Int) < p2 - p1 ∧ SB 1 (p0.toNat + i) ≠ (f (p1.toNat + i)).toInt)

