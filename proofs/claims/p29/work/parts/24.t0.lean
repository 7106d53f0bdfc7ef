-- WHAT mg_A PURE FUNCTION ANSWERS: it answers something, and that is so
def cg_O {α : Type} (o : Option α) (Q : α → Prop) : Prop := ∃ r, o = some r ∧ Q r
theorem cg_some {α : Type} {a : α} {Q : α → Prop} (h : Q a) : cg_O (some a) Q := ⟨a, rfl, h⟩
theorem cg_bn {α β : Type} {o : Option α} {k : α → Option β} {P : α → Prop} {Q : β → Prop} (h : cg_O o P) (hk : ∀ a, P a → cg_O (k a) Q) : cg_O (bn o k) Q := by
  obtain ⟨a, ha, hp⟩ := h
  rw [ha]
  exact hk a hp
theorem cg_chk {β : Type} {b : Bool} {k : Option β} {Q : β → Prop} (h : b = true) (hk : cg_O k Q) : cg_O (chk b k) Q := by rw [h]; exact hk
theorem cg_bv {α β : Type} {e : α} {k : α → Option β} {Q : β → Prop} (h : ∀ x, x = e → cg_O (k x) Q) : cg_O (bv e k) Q := h e rfl
theorem cg_jn {κ β : Type} {k : κ} {f : κ → Option β} {Q : β → Prop} (h : cg_O (f k) Q) : cg_O (jn k f) Q := h
theorem cg_js {κ β : Type} {k : κ} {f : κ → Option β} {Q : β → Prop} (I : κ → Prop) (h : I k) (h2 : ∀ k', I k' → cg_O (f k') Q) : cg_O (jn k f) Q := h2 k h
theorem cg_mono {α : Type} {o : Option α} {P Q : α → Prop} (h : cg_O o P) (h2 : ∀ a, P a → Q a) : cg_O o Q := by
  obtain ⟨a, ha, hp⟩ := h
  exact ⟨a, ha, h2 a hp⟩
theorem cg_i {c : Prop} {d : Decidable c} {α : Type} {a b : Option α} {Q : α → Prop} (h1 : c → cg_O a Q) (h2 : ¬ c → cg_O b Q) : cg_O (@ite (Option α) c d a b) Q := by
  by_cases h : c
  · rw [if_pos h]
    exact h1 h
  · rw [if_neg h]
    exact h2 h
theorem cg_lt {x y : Int32} {α : Type} {a b : Option α} {Q : α → Prop} (h1 : x.toInt < y.toInt → cg_O a Q) (h2 : y.toInt ≤ x.toInt → cg_O b Q) : cg_O (if x < y then a else b) Q :=
  cg_i (fun h => h1 (Int32.lt_iff_toInt_lt.mp h)) (fun h => h2 (Int32.le_iff_toInt_le.mp (Int32.not_lt.mp h)))
theorem cg_le {x y : Int32} {α : Type} {a b : Option α} {Q : α → Prop} (h1 : x.toInt ≤ y.toInt → cg_O a Q) (h2 : y.toInt < x.toInt → cg_O b Q) : cg_O (if x ≤ y then a else b) Q :=
  cg_i (fun h => h1 (Int32.le_iff_toInt_le.mp h)) (fun h => h2 (Int32.lt_iff_toInt_lt.mp (Int32.not_le.mp h)))
theorem cg_eq {x y : Int32} {α : Type} {a b : Option α} {Q : α → Prop} (h1 : x.toInt = y.toInt → cg_O a Q) (h2 : x.toInt ≠ y.toInt → cg_O b Q) : cg_O (if x = y then a else b) Q :=
  cg_i (fun h => h1 (congrArg Int32.toInt h)) (fun h => h2 (fun e => h (Int32.toInt_inj.mp e)))
theorem cg_pos {c : Prop} {d : Decidable c} {α : Type} {a b : Option α} {Q : α → Prop} (h : c) (h1 : cg_O a Q) : cg_O (@ite (Option α) c d a b) Q := by
  rw [if_pos h]
  exact h1
theorem cg_neg {c : Prop} {d : Decidable c} {α : Type} {a b : Option α} {Q : α → Prop} (h : ¬ c) (h1 : cg_O b Q) : cg_O (@ite (Option α) c d a b) Q := by
  rw [if_neg h]
  exact h1
theorem inb_t {i : Int32} {n : Nat} (h1 : 0 ≤ i.toInt) (h2 : i.toInt < (n : Int)) : inb i n = true := by
  simp only [inb, Bool.and_eq_true, decide_eq_true_eq]
  exact ⟨h1, h2⟩
theorem add_i {a b : Int32} (h1 : -2147483648 ≤ a.toInt + b.toInt) (h2 : a.toInt + b.toInt < 2147483648) : (a + b).toInt = a.toInt + b.toInt := by
  rw [Int32.toInt_add]
  show Int.bmod _ 4294967296 = _
  exact Int.bmod_eq_of_le_mul_two (by omega) (by omega)
theorem sub_i {a b : Int32} (h1 : -2147483648 ≤ a.toInt - b.toInt) (h2 : a.toInt - b.toInt < 2147483648) : (a - b).toInt = a.toInt - b.toInt := by
  rw [Int32.toInt_sub]
  show Int.bmod _ 4294967296 = _
  exact Int.bmod_eq_of_le_mul_two (by omega) (by omega)
theorem mul_i {a b : Int32} (h1 : -2147483648 ≤ a.toInt * b.toInt) (h2 : a.toInt * b.toInt < 2147483648) : (a * b).toInt = a.toInt * b.toInt := by
  rw [Int32.toInt_mul]
  show Int.bmod _ 4294967296 = _
  exact Int.bmod_eq_of_le_mul_two (by omega) (by omega)
theorem mulc {a b : Int32} {k : Int} (hk : b.toInt = k) (h1 : -2147483648 ≤ a.toInt * k) (h2 : a.toInt * k < 2147483648) : (a * b).toInt = a.toInt * k := by
  subst hk
  exact mul_i h1 h2
theorem cmul {a b : Int32} {k : Int} (hk : a.toInt = k) (h1 : -2147483648 ≤ k * b.toInt) (h2 : k * b.toInt < 2147483648) : (a * b).toInt = k * b.toInt := by
  subst hk
  exact mul_i h1 h2
theorem lim (a : Int32) : -2147483648 ≤ a.toInt ∧ a.toInt < 2147483648 := by
  have h1 := Int32.le_toInt a
  have h2 := Int32.toInt_lt a
  omega
theorem cg_l1 {A1 B : Type} {F : (A1 → Option B) → A1 → Option B} {Q : B → Prop} (P : Nat → A1 → Prop) (hs : ∀ (d : Nat) (R : A1 → Option B), (∀ (d' : Nat) (x1 : A1), d' < d → P d' x1 → cg_O (R x1) Q) → ∀ (x1 : A1), P d x1 → cg_O (F R x1) Q) : ∀ (d m : Nat), d < m → ∀ (x1 : A1), P d x1 → cg_O (ql1 F m x1) Q := by
  intro d
  induction d using Nat.strongRecOn with
  | ind d ih =>
    intro m hm x1 hP
    obtain ⟨m, rfl⟩ : ∃ k, m = k + 1 := ⟨m - 1, by omega⟩
    exact hs d (ql1 F m) (fun d' y1 hd hP' => ih d' hd m (by omega) y1 hP') x1 hP
theorem cg_q1 {A1 B C : Type} {F : (A1 → Option B) → A1 → Option B} {f : (A1 → Option B) → Option C} {Q : C → Prop} (h : cg_O (f (ql1 F 4096)) Q) : cg_O (qj1 F f) Q := h
theorem cg_l2 {A1 A2 B : Type} {F : (A1 → A2 → Option B) → A1 → A2 → Option B} {Q : B → Prop} (P : Nat → A1 → A2 → Prop) (hs : ∀ (d : Nat) (R : A1 → A2 → Option B), (∀ (d' : Nat) (x1 : A1) (x2 : A2), d' < d → P d' x1 x2 → cg_O (R x1 x2) Q) → ∀ (x1 : A1) (x2 : A2), P d x1 x2 → cg_O (F R x1 x2) Q) : ∀ (d m : Nat), d < m → ∀ (x1 : A1) (x2 : A2), P d x1 x2 → cg_O (ql2 F m x1 x2) Q := by
  intro d
  induction d using Nat.strongRecOn with
  | ind d ih =>
    intro m hm x1 x2 hP
    obtain ⟨m, rfl⟩ : ∃ k, m = k + 1 := ⟨m - 1, by omega⟩
    exact hs d (ql2 F m) (fun d' y1 y2 hd hP' => ih d' hd m (by omega) y1 y2 hP') x1 x2 hP
theorem cg_q2 {A1 A2 B C : Type} {F : (A1 → A2 → Option B) → A1 → A2 → Option B} {f : (A1 → A2 → Option B) → Option C} {Q : C → Prop} (h : cg_O (f (ql2 F 4096)) Q) : cg_O (qj2 F f) Q := h
theorem cg_l3 {A1 A2 A3 B : Type} {F : (A1 → A2 → A3 → Option B) → A1 → A2 → A3 → Option B} {Q : B → Prop} (P : Nat → A1 → A2 → A3 → Prop) (hs : ∀ (d : Nat) (R : A1 → A2 → A3 → Option B), (∀ (d' : Nat) (x1 : A1) (x2 : A2) (x3 : A3), d' < d → P d' x1 x2 x3 → cg_O (R x1 x2 x3) Q) → ∀ (x1 : A1) (x2 : A2) (x3 : A3), P d x1 x2 x3 → cg_O (F R x1 x2 x3) Q) : ∀ (d m : Nat), d < m → ∀ (x1 : A1) (x2 : A2) (x3 : A3), P d x1 x2 x3 → cg_O (ql3 F m x1 x2 x3) Q := by
  intro d
  induction d using Nat.strongRecOn with
  | ind d ih =>
    intro m hm x1 x2 x3 hP
    obtain ⟨m, rfl⟩ : ∃ k, m = k + 1 := ⟨m - 1, by omega⟩
    exact hs d (ql3 F m) (fun d' y1 y2 y3 hd hP' => ih d' hd m (by omega) y1 y2 y3 hP') x1 x2 x3 hP
theorem cg_q3 {A1 A2 A3 B C : Type} {F : (A1 → A2 → A3 → Option B) → A1 → A2 → A3 → Option B} {f : (A1 → A2 → A3 → Option B) → Option C} {Q : C → Prop} (h : cg_O (f (ql3 F 4096)) Q) : cg_O (qj3 F f) Q := h
theorem cg_l4 {A1 A2 A3 A4 B : Type} {F : (A1 → A2 → A3 → A4 → Option B) → A1 → A2 → A3 → A4 → Option B} {Q : B → Prop} (P : Nat → A1 → A2 → A3 → A4 → Prop) (hs : ∀ (d : Nat) (R : A1 → A2 → A3 → A4 → Option B), (∀ (d' : Nat) (x1 : A1) (x2 : A2) (x3 : A3) (x4 : A4), d' < d → P d' x1 x2 x3 x4 → cg_O (R x1 x2 x3 x4) Q) → ∀ (x1 : A1) (x2 : A2) (x3 : A3) (x4 : A4), P d x1 x2 x3 x4 → cg_O (F R x1 x2 x3 x4) Q) : ∀ (d m : Nat), d < m → ∀ (x1 : A1) (x2 : A2) (x3 : A3) (x4 : A4), P d x1 x2 x3 x4 → cg_O (ql4 F m x1 x2 x3 x4) Q := by
  intro d
  induction d using Nat.strongRecOn with
  | ind d ih =>
    intro m hm x1 x2 x3 x4 hP
    obtain ⟨m, rfl⟩ : ∃ k, m = k + 1 := ⟨m - 1, by omega⟩
    exact hs d (ql4 F m) (fun d' y1 y2 y3 y4 hd hP' => ih d' hd m (by omega) y1 y2 y3 y4 hP') x1 x2 x3 x4 hP
theorem cg_q4 {A1 A2 A3 A4 B C : Type} {F : (A1 → A2 → A3 → A4 → Option B) → A1 → A2 → A3 → A4 → Option B} {f : (A1 → A2 → A3 → A4 → Option B) → Option C} {Q : C → Prop} (h : cg_O (f (ql4 F 4096)) Q) : cg_O (qj4 F f) Q := h
theorem cg_l5 {A1 A2 A3 A4 A5 B : Type} {F : (A1 → A2 → A3 → A4 → A5 → Option B) → A1 → A2 → A3 → A4 → A5 → Option B} {Q : B → Prop} (P : Nat → A1 → A2 → A3 → A4 → A5 → Prop) (hs : ∀ (d : Nat) (R : A1 → A2 → A3 → A4 → A5 → Option B), (∀ (d' : Nat) (x1 : A1) (x2 : A2) (x3 : A3) (x4 : A4) (x5 : A5), d' < d → P d' x1 x2 x3 x4 x5 → cg_O (R x1 x2 x3 x4 x5) Q) → ∀ (x1 : A1) (x2 : A2) (x3 : A3) (x4 : A4) (x5 : A5), P d x1 x2 x3 x4 x5 → cg_O (F R x1 x2 x3 x4 x5) Q) : ∀ (d m : Nat), d < m → ∀ (x1 : A1) (x2 : A2) (x3 : A3) (x4 : A4) (x5 : A5), P d x1 x2 x3 x4 x5 → cg_O (ql5 F m x1 x2 x3 x4 x5) Q := by
  intro d
  induction d using Nat.strongRecOn with
  | ind d ih =>
    intro m hm x1 x2 x3 x4 x5 hP
    obtain ⟨m, rfl⟩ : ∃ k, m = k + 1 := ⟨m - 1, by omega⟩
    exact hs d (ql5 F m) (fun d' y1 y2 y3 y4 y5 hd hP' => ih d' hd m (by omega) y1 y2 y3 y4 y5 hP') x1 x2 x3 x4 x5 hP
theorem cg_q5 {A1 A2 A3 A4 A5 B C : Type} {F : (A1 → A2 → A3 → A4 → A5 → Option B) → A1 → A2 → A3 → A4 → A5 → Option B} {f : (A1 → A2 → A3 → A4 → A5 → Option B) → Option C} {Q : C → Prop} (h : cg_O (f (ql5 F 4096)) Q) : cg_O (qj5 F f) Q := h
theorem cg_l6 {A1 A2 A3 A4 A5 A6 B : Type} {F : (A1 → A2 → A3 → A4 → A5 → A6 → Option B) → A1 → A2 → A3 → A4 → A5 → A6 → Option B} {Q : B → Prop} (P : Nat → A1 → A2 → A3 → A4 → A5 → A6 → Prop) (hs : ∀ (d : Nat) (R : A1 → A2 → A3 → A4 → A5 → A6 → Option B), (∀ (d' : Nat) (x1 : A1) (x2 : A2) (x3 : A3) (x4 : A4) (x5 : A5) (x6 : A6), d' < d → P d' x1 x2 x3 x4 x5 x6 → cg_O (R x1 x2 x3 x4 x5 x6) Q) → ∀ (x1 : A1) (x2 : A2) (x3 : A3) (x4 : A4) (x5 : A5) (x6 : A6), P d x1 x2 x3 x4 x5 x6 → cg_O (F R x1 x2 x3 x4 x5 x6) Q) : ∀ (d m : Nat), d < m → ∀ (x1 : A1) (x2 : A2) (x3 : A3) (x4 : A4) (x5 : A5) (x6 : A6), P d x1 x2 x3 x4 x5 x6 → cg_O (ql6 F m x1 x2 x3 x4 x5 x6) Q := by
  intro d
  induction d using Nat.strongRecOn with
  | ind d ih =>
    intro m hm x1 x2 x3 x4 x5 x6 hP
    obtain ⟨m, rfl⟩ : ∃ k, m = k + 1 := ⟨m - 1, by omega⟩
    exact hs d (ql6 F m) (fun d' y1 y2 y3 y4 y5 y6 hd hP' => ih d' hd m (by omega) y1 y2 y3 y4 y5 y6 hP') x1 x2 x3 x4 x5 x6 hP
theorem cg_q6 {A1 A2 A3 A4 A5 A6 B C : Type} {F : (A1 → A2 → A3 → A4 → A5 → A6 → Option B) → A1 → A2 → A3 → A4 → A5 → A6 → Option B} {f : (A1 → A2 → A3 → A4 → A5 → A6 → Option B) → Option C} {Q : C → Prop} (h : cg_O (f (ql6 F 4096)) Q) : cg_O (qj6 F f) Q := h
theorem cg_l7 {A1 A2 A3 A4 A5 A6 A7 B : Type} {F : (A1 → A2 → A3 → A4 → A5 → A6 → A7 → Option B) → A1 → A2 → A3 → A4 → A5 → A6 → A7 → Option B} {Q : B → Prop} (P : Nat → A1 → A2 → A3 → A4 → A5 → A6 → A7 → Prop) (hs : ∀ (d : Nat) (R : A1 → A2 → A3 → A4 → A5 → A6 → A7 → Option B), (∀ (d' : Nat) (x1 : A1) (x2 : A2) (x3 : A3) (x4 : A4) (x5 : A5) (x6 : A6) (x7 : A7), d' < d → P d' x1 x2 x3 x4 x5 x6 x7 → cg_O (R x1 x2 x3 x4 x5 x6 x7) Q) → ∀ (x1 : A1) (x2 : A2) (x3 : A3) (x4 : A4) (x5 : A5) (x6 : A6) (x7 : A7), P d x1 x2 x3 x4 x5 x6 x7 → cg_O (F R x1 x2 x3 x4 x5 x6 x7) Q) : ∀ (d m : Nat), d < m → ∀ (x1 : A1) (x2 : A2) (x3 : A3) (x4 : A4) (x5 : A5) (x6 : A6) (x7 : A7), P d x1 x2 x3 x4 x5 x6 x7 → cg_O (ql7 F m x1 x2 x3 x4 x5 x6 x7) Q := by
  intro d
  induction d using Nat.strongRecOn with
  | ind d ih =>
    intro m hm x1 x2 x3 x4 x5 x6 x7 hP
    obtain ⟨m, rfl⟩ : ∃ k, m = k + 1 := ⟨m - 1, by omega⟩
    exact hs d (ql7 F m) (fun d' y1 y2 y3 y4 y5 y6 y7 hd hP' => ih d' hd m (by omega) y1 y2 y3 y4 y5 y6 y7 hP') x1 x2 x3 x4 x5 x6 x7 hP
theorem cg_q7 {A1 A2 A3 A4 A5 A6 A7 B C : Type} {F : (A1 → A2 → A3 → A4 → A5 → A6 → A7 → Option B) → A1 → A2 → A3 → A4 → A5 → A6 → A7 → Option B} {f : (A1 → A2 → A3 → A4 → A5 → A6 → A7 → Option B) → Option C} {Q : C → Prop} (h : cg_O (f (ql7 F 4096)) Q) : cg_O (qj7 F f) Q := h
theorem add_e {a b : Int32} {x y : Int} (ha : a.toInt = x) (hb : b.toInt = y) (h1 : -2147483648 ≤ x + y) (h2 : x + y < 2147483648) : (a + b).toInt = x + y := by
  subst ha hb
  exact add_i h1 h2
theorem sub_e {a b : Int32} {x y : Int} (ha : a.toInt = x) (hb : b.toInt = y) (h1 : -2147483648 ≤ x - y) (h2 : x - y < 2147483648) : (a - b).toInt = x - y := by
  subst ha hb
  exact sub_i h1 h2
theorem mul_e {a b : Int32} {x y : Int} (ha : a.toInt = x) (hb : b.toInt = y) (h1 : -2147483648 ≤ x * y) (h2 : x * y < 2147483648) : (a * b).toInt = x * y := by
  subst ha hb
  exact mul_i h1 h2
theorem inb_e {i : Int32} {n : Nat} {x : Int} (h : i.toInt = x) (h1 : 0 ≤ x) (h2 : x < (n : Int)) : inb i n = true := inb_t (by omega) (by omega)
theorem cg_lt2 {x y : Int32} {α : Type} {a b : Option α} {Q : α → Prop} {m n : Int} (hm : x.toInt = m) (hn : y.toInt = n) (h1 : m < n → cg_O a Q) (h2 : n ≤ m → cg_O b Q) : cg_O (if x < y then a else b) Q := by
  subst hm hn
  exact cg_lt h1 h2
theorem cg_le2 {x y : Int32} {α : Type} {a b : Option α} {Q : α → Prop} {m n : Int} (hm : x.toInt = m) (hn : y.toInt = n) (h1 : m ≤ n → cg_O a Q) (h2 : n < m → cg_O b Q) : cg_O (if x ≤ y then a else b) Q := by
  subst hm hn
  exact cg_le h1 h2
theorem cg_eq2 {x y : Int32} {α : Type} {a b : Option α} {Q : α → Prop} {m n : Int} (hm : x.toInt = m) (hn : y.toInt = n) (h1 : m = n → cg_O a Q) (h2 : m ≠ n → cg_O b Q) : cg_O (if x = y then a else b) Q := by
  subst hm hn
  exact cg_eq h1 h2
-- what the class keeps: no folder has more than eight entries; the cells of the object itself and the bad blocks
def cg_S (u : S1) : Prop := ∀ k, 0 ≤ (u 5 k).toInt ∧ (u 5 k).toInt ≤ 8
theorem up_o (u : S1) {k c : Nat} (f : Nat → Int32) (h : c ≠ k) : up u k f c = u c := by
  unfold up
  rw [show Nat.beq c k = false from (by cases hb : Nat.beq c k with | false => rfl | true => exact absurd (Nat.eq_of_beq_eq_true hb) h)]
  rfl
theorem upc_o (U : S2) {k c : Nat} (f : S1) (h : c ≠ k) : upc U k f c = U c := by
  unfold upc
  rw [show Nat.beq c k = false from (by cases hb : Nat.beq c k with | false => rfl | true => exact absurd (Nat.eq_of_beq_eq_true hb) h)]
  rfl
theorem up_s (u : S1) (k : Nat) (f : Nat → Int32) : up u k f k = f := by
  unfold up
  rw [Nat.beq_refl]
  rfl
theorem upc_s (U : S2) (k : Nat) (f : S1) : upc U k f k = f := by
  unfold upc
  rw [Nat.beq_refl]
  rfl
theorem sz_up {u : S1} {k : Nat} {f : Nat → Int32} (h : cg_S u) (hk : 5 ≠ k) : cg_S (up u k f) := fun i => by rw [up_o u f hk]; exact h i
theorem sz_st {u : S1} {k : Nat} {i x : Int32} (h : cg_S u) (hk : 5 ≠ k) : cg_S (st u k i x) := sz_up h hk
theorem sz_stz {u : S1} {k : Nat} {i x : Int32} (h : cg_S u) (hk : 5 ≠ k) : cg_S (stz u k i x) := sz_up h hk
theorem sz_cp {u v : S1} {k j : Nat} {n : Int32} (h : cg_S u) (hk : 5 ≠ k) : cg_S (cp u k v j n) := sz_up h hk
theorem sz_st5 {u : S1} {i x : Int32} {m : Int} (h : cg_S u) (hx : x.toInt = m) (hm0 : 0 ≤ m) (hm : m ≤ 8) : cg_S (st u 5 i x) := fun j => by
  unfold st
  rw [up_s]
  unfold upd
  by_cases e : j = i.toNatClampNeg
  · rw [if_pos e]
    omega
  · rw [if_neg e]
    exact h j
theorem sz_cp5 {u v : S1} {n : Int32} (h : cg_S u) (h2 : cg_S v) : cg_S (cp u 5 v 5 n) := fun j => by
  unfold cp
  rw [up_s]
  unfold va_cpy
  split
  · exact h2 _
  · exact h j
def cg_U (U : S2) : Prop := ∀ c, 1 ≤ c → c ≤ 5 → cg_S (U c)
def cg_G (U U' : S2) : Prop := cg_U U' ∧ U' 0 = U 0 ∧ U' 7 1 = U 7 1
theorem g_refl {U : S2} (h : cg_U U) : cg_G U U := ⟨h, rfl, rfl⟩
theorem g_trans {U U1 U2 : S2} (h : cg_G U U1) (h2 : cg_G U1 U2) : cg_G U U2 := ⟨h2.1, h2.2.1.trans h.2.1, h2.2.2.trans h.2.2⟩
theorem g_sz {U U1 : S2} (h : cg_G U U1) {c : Nat} (h1 : 1 ≤ c) (h2 : c ≤ 5) : cg_S (U1 c) := h.1 c h1 h2
theorem g_tree {U U1 : S2} {c : Nat} {z : S1} (h : cg_G U U1) (h1 : 0 ≠ c) (h2 : 7 ≠ c) (hz : cg_S z) : cg_G U (upc U1 c z) := by
  refine ⟨fun k hk hk2 => ?_, by rw [upc_o _ _ h1]; exact h.2.1, by rw [upc_o _ _ h2]; exact h.2.2⟩
  by_cases e : k = c
  · subst e
    rw [upc_s]
    exact hz
  · rw [upc_o _ _ e]
    exact h.1 k hk hk2
theorem g_oth {U U1 : S2} {c : Nat} {z : S1} (h : cg_G U U1) (h1 : 0 ≠ c) (h2 : 7 ≠ c) (h3 : 5 < c) : cg_G U (upc U1 c z) := by
  refine ⟨fun k hk hk2 => ?_, by rw [upc_o _ _ h1]; exact h.2.1, by rw [upc_o _ _ h2]; exact h.2.2⟩
  rw [upc_o _ _ (show k ≠ c by omega)]
  exact h.1 k hk hk2
theorem g_disk {U U1 : S2} {z : S1} (h : cg_G U U1) (hz : z 1 = (U1 7) 1) : cg_G U (upc U1 7 z) := by
  refine ⟨fun k hk hk2 => ?_, by rw [upc_o _ _ (by decide)]; exact h.2.1, by rw [upc_s, hz]; exact h.2.2⟩
  rw [upc_o _ _ (show k ≠ 7 by omega)]
  exact h.1 k hk hk2
