/-! NUMBERS ALONE from here on: rules for the nice forms -/
theorem wO_i {α : Type} {P : Prop} {v : α} {k : α → Prop} (h : P) (hk : k v) : wO P v k := ⟨h, hk⟩
theorem wL_i {α : Type} {v : α} {k : α → Prop} (hk : k v) : wL v k := hk
theorem cB_i {c A B : Prop} (h1 : c → A) (h2 : ¬ c → B) : cB c A B := ⟨h1, h2⟩
theorem cB_t {c A B : Prop} (h : c) (h1 : A) : cB c A B := ⟨fun _ => h1, fun g => absurd h g⟩
theorem cB_f {c A B : Prop} (h : ¬ c) (h2 : B) : cB c A B := ⟨fun g => absurd g h, fun _ => h2⟩
theorem jn0_i {J : Prop} {B : (Prop) → Prop} (h : B J) : jn0 J B := ⟨J, fun h => h, h⟩
theorem jn0_s {J : Prop} {B : (Prop) → Prop} (S : Prop) (hS : S → J) (h : B S) : jn0 J B := ⟨S, hS, h⟩
theorem jn1_i {A0 : Type} {J : A0 → Prop} {B : (A0 → Prop) → Prop} (h : B J) : jn1 J B := ⟨J, fun _ h => h, h⟩
theorem jn1_s {A0 : Type} {J : A0 → Prop} {B : (A0 → Prop) → Prop} (S : A0 → Prop) (hS : ∀ x0, S x0 → J x0) (h : B S) : jn1 J B := ⟨S, hS, h⟩
theorem nlp1_i {A0 : Type} {F : (A0 → Prop) → (A0 → Prop)} (Inv : A0 → Prop) (ms : A0 → Nat) (st : ∀ x0, Inv x0 → ∀ self : A0 → Prop, (∀ y0, Inv y0 → ms y0 < ms x0 → self y0) → F self x0) {x0 : A0} (h0 : Inv x0) : nlp1 F x0 := by
  intro P hP
  have key : ∀ n : Nat, ∀ x0, ms x0 < n → Inv x0 → P x0 := by
    intro n
    induction n with
    | zero =>
      intro x0 hm _
      exact absurd hm (Nat.not_lt_zero _)
    | succ n ih =>
      intro x0 hm hi
      exact hP _ (st _ hi P (fun y0 hy hlt => ih _ (by omega) hy))
  exact key _ _ (Nat.lt_succ_self _) h0
theorem jn2_i {A0 A1 : Type} {J : A0 → A1 → Prop} {B : (A0 → A1 → Prop) → Prop} (h : B J) : jn2 J B := ⟨J, fun _ _ h => h, h⟩
theorem jn2_s {A0 A1 : Type} {J : A0 → A1 → Prop} {B : (A0 → A1 → Prop) → Prop} (S : A0 → A1 → Prop) (hS : ∀ x0 x1, S x0 x1 → J x0 x1) (h : B S) : jn2 J B := ⟨S, hS, h⟩
theorem nlp2_i {A0 A1 : Type} {F : (A0 → A1 → Prop) → (A0 → A1 → Prop)} (Inv : A0 → A1 → Prop) (ms : A0 → A1 → Nat) (st : ∀ x0 x1, Inv x0 x1 → ∀ self : A0 → A1 → Prop, (∀ y0 y1, Inv y0 y1 → ms y0 y1 < ms x0 x1 → self y0 y1) → F self x0 x1) {x0 : A0} {x1 : A1} (h0 : Inv x0 x1) : nlp2 F x0 x1 := by
  intro P hP
  have key : ∀ n : Nat, ∀ x0 x1, ms x0 x1 < n → Inv x0 x1 → P x0 x1 := by
    intro n
    induction n with
    | zero =>
      intro x0 x1 hm _
      exact absurd hm (Nat.not_lt_zero _)
    | succ n ih =>
      intro x0 x1 hm hi
      exact hP _ _ (st _ _ hi P (fun y0 y1 hy hlt => ih _ _ (by omega) hy))
  exact key _ _ _ (Nat.lt_succ_self _) h0
theorem jn3_i {A0 A1 A2 : Type} {J : A0 → A1 → A2 → Prop} {B : (A0 → A1 → A2 → Prop) → Prop} (h : B J) : jn3 J B := ⟨J, fun _ _ _ h => h, h⟩
theorem jn3_s {A0 A1 A2 : Type} {J : A0 → A1 → A2 → Prop} {B : (A0 → A1 → A2 → Prop) → Prop} (S : A0 → A1 → A2 → Prop) (hS : ∀ x0 x1 x2, S x0 x1 x2 → J x0 x1 x2) (h : B S) : jn3 J B := ⟨S, hS, h⟩
theorem nlp3_i {A0 A1 A2 : Type} {F : (A0 → A1 → A2 → Prop) → (A0 → A1 → A2 → Prop)} (Inv : A0 → A1 → A2 → Prop) (ms : A0 → A1 → A2 → Nat) (st : ∀ x0 x1 x2, Inv x0 x1 x2 → ∀ self : A0 → A1 → A2 → Prop, (∀ y0 y1 y2, Inv y0 y1 y2 → ms y0 y1 y2 < ms x0 x1 x2 → self y0 y1 y2) → F self x0 x1 x2) {x0 : A0} {x1 : A1} {x2 : A2} (h0 : Inv x0 x1 x2) : nlp3 F x0 x1 x2 := by
  intro P hP
  have key : ∀ n : Nat, ∀ x0 x1 x2, ms x0 x1 x2 < n → Inv x0 x1 x2 → P x0 x1 x2 := by
    intro n
    induction n with
    | zero =>
      intro x0 x1 x2 hm _
      exact absurd hm (Nat.not_lt_zero _)
    | succ n ih =>
      intro x0 x1 x2 hm hi
      exact hP _ _ _ (st _ _ _ hi P (fun y0 y1 y2 hy hlt => ih _ _ _ (by omega) hy))
  exact key _ _ _ _ (Nat.lt_succ_self _) h0
theorem jn4_i {A0 A1 A2 A3 : Type} {J : A0 → A1 → A2 → A3 → Prop} {B : (A0 → A1 → A2 → A3 → Prop) → Prop} (h : B J) : jn4 J B := ⟨J, fun _ _ _ _ h => h, h⟩
theorem jn4_s {A0 A1 A2 A3 : Type} {J : A0 → A1 → A2 → A3 → Prop} {B : (A0 → A1 → A2 → A3 → Prop) → Prop} (S : A0 → A1 → A2 → A3 → Prop) (hS : ∀ x0 x1 x2 x3, S x0 x1 x2 x3 → J x0 x1 x2 x3) (h : B S) : jn4 J B := ⟨S, hS, h⟩
theorem nlp4_i {A0 A1 A2 A3 : Type} {F : (A0 → A1 → A2 → A3 → Prop) → (A0 → A1 → A2 → A3 → Prop)} (Inv : A0 → A1 → A2 → A3 → Prop) (ms : A0 → A1 → A2 → A3 → Nat) (st : ∀ x0 x1 x2 x3, Inv x0 x1 x2 x3 → ∀ self : A0 → A1 → A2 → A3 → Prop, (∀ y0 y1 y2 y3, Inv y0 y1 y2 y3 → ms y0 y1 y2 y3 < ms x0 x1 x2 x3 → self y0 y1 y2 y3) → F self x0 x1 x2 x3) {x0 : A0} {x1 : A1} {x2 : A2} {x3 : A3} (h0 : Inv x0 x1 x2 x3) : nlp4 F x0 x1 x2 x3 := by
  intro P hP
  have key : ∀ n : Nat, ∀ x0 x1 x2 x3, ms x0 x1 x2 x3 < n → Inv x0 x1 x2 x3 → P x0 x1 x2 x3 := by
    intro n
    induction n with
    | zero =>
      intro x0 x1 x2 x3 hm _
      exact absurd hm (Nat.not_lt_zero _)
    | succ n ih =>
      intro x0 x1 x2 x3 hm hi
      exact hP _ _ _ _ (st _ _ _ _ hi P (fun y0 y1 y2 y3 hy hlt => ih _ _ _ _ (by omega) hy))
  exact key _ _ _ _ _ (Nat.lt_succ_self _) h0
theorem jn5_i {A0 A1 A2 A3 A4 : Type} {J : A0 → A1 → A2 → A3 → A4 → Prop} {B : (A0 → A1 → A2 → A3 → A4 → Prop) → Prop} (h : B J) : jn5 J B := ⟨J, fun _ _ _ _ _ h => h, h⟩
theorem jn5_s {A0 A1 A2 A3 A4 : Type} {J : A0 → A1 → A2 → A3 → A4 → Prop} {B : (A0 → A1 → A2 → A3 → A4 → Prop) → Prop} (S : A0 → A1 → A2 → A3 → A4 → Prop) (hS : ∀ x0 x1 x2 x3 x4, S x0 x1 x2 x3 x4 → J x0 x1 x2 x3 x4) (h : B S) : jn5 J B := ⟨S, hS, h⟩
theorem nlp5_i {A0 A1 A2 A3 A4 : Type} {F : (A0 → A1 → A2 → A3 → A4 → Prop) → (A0 → A1 → A2 → A3 → A4 → Prop)} (Inv : A0 → A1 → A2 → A3 → A4 → Prop) (ms : A0 → A1 → A2 → A3 → A4 → Nat) (st : ∀ x0 x1 x2 x3 x4, Inv x0 x1 x2 x3 x4 → ∀ self : A0 → A1 → A2 → A3 → A4 → Prop, (∀ y0 y1 y2 y3 y4, Inv y0 y1 y2 y3 y4 → ms y0 y1 y2 y3 y4 < ms x0 x1 x2 x3 x4 → self y0 y1 y2 y3 y4) → F self x0 x1 x2 x3 x4) {x0 : A0} {x1 : A1} {x2 : A2} {x3 : A3} {x4 : A4} (h0 : Inv x0 x1 x2 x3 x4) : nlp5 F x0 x1 x2 x3 x4 := by
  intro P hP
  have key : ∀ n : Nat, ∀ x0 x1 x2 x3 x4, ms x0 x1 x2 x3 x4 < n → Inv x0 x1 x2 x3 x4 → P x0 x1 x2 x3 x4 := by
    intro n
    induction n with
    | zero =>
      intro x0 x1 x2 x3 x4 hm _
      exact absurd hm (Nat.not_lt_zero _)
    | succ n ih =>
      intro x0 x1 x2 x3 x4 hm hi
      exact hP _ _ _ _ _ (st _ _ _ _ _ hi P (fun y0 y1 y2 y3 y4 hy hlt => ih _ _ _ _ _ (by omega) hy))
  exact key _ _ _ _ _ _ (Nat.lt_succ_self _) h0
theorem jn6_i {A0 A1 A2 A3 A4 A5 : Type} {J : A0 → A1 → A2 → A3 → A4 → A5 → Prop} {B : (A0 → A1 → A2 → A3 → A4 → A5 → Prop) → Prop} (h : B J) : jn6 J B := ⟨J, fun _ _ _ _ _ _ h => h, h⟩
theorem jn6_s {A0 A1 A2 A3 A4 A5 : Type} {J : A0 → A1 → A2 → A3 → A4 → A5 → Prop} {B : (A0 → A1 → A2 → A3 → A4 → A5 → Prop) → Prop} (S : A0 → A1 → A2 → A3 → A4 → A5 → Prop) (hS : ∀ x0 x1 x2 x3 x4 x5, S x0 x1 x2 x3 x4 x5 → J x0 x1 x2 x3 x4 x5) (h : B S) : jn6 J B := ⟨S, hS, h⟩
theorem nlp6_i {A0 A1 A2 A3 A4 A5 : Type} {F : (A0 → A1 → A2 → A3 → A4 → A5 → Prop) → (A0 → A1 → A2 → A3 → A4 → A5 → Prop)} (Inv : A0 → A1 → A2 → A3 → A4 → A5 → Prop) (ms : A0 → A1 → A2 → A3 → A4 → A5 → Nat) (st : ∀ x0 x1 x2 x3 x4 x5, Inv x0 x1 x2 x3 x4 x5 → ∀ self : A0 → A1 → A2 → A3 → A4 → A5 → Prop, (∀ y0 y1 y2 y3 y4 y5, Inv y0 y1 y2 y3 y4 y5 → ms y0 y1 y2 y3 y4 y5 < ms x0 x1 x2 x3 x4 x5 → self y0 y1 y2 y3 y4 y5) → F self x0 x1 x2 x3 x4 x5) {x0 : A0} {x1 : A1} {x2 : A2} {x3 : A3} {x4 : A4} {x5 : A5} (h0 : Inv x0 x1 x2 x3 x4 x5) : nlp6 F x0 x1 x2 x3 x4 x5 := by
  intro P hP
  have key : ∀ n : Nat, ∀ x0 x1 x2 x3 x4 x5, ms x0 x1 x2 x3 x4 x5 < n → Inv x0 x1 x2 x3 x4 x5 → P x0 x1 x2 x3 x4 x5 := by
    intro n
    induction n with
    | zero =>
      intro x0 x1 x2 x3 x4 x5 hm _
      exact absurd hm (Nat.not_lt_zero _)
    | succ n ih =>
      intro x0 x1 x2 x3 x4 x5 hm hi
      exact hP _ _ _ _ _ _ (st _ _ _ _ _ _ hi P (fun y0 y1 y2 y3 y4 y5 hy hlt => ih _ _ _ _ _ _ (by omega) hy))
  exact key _ _ _ _ _ _ _ (Nat.lt_succ_self _) h0
theorem jn7_i {A0 A1 A2 A3 A4 A5 A6 : Type} {J : A0 → A1 → A2 → A3 → A4 → A5 → A6 → Prop} {B : (A0 → A1 → A2 → A3 → A4 → A5 → A6 → Prop) → Prop} (h : B J) : jn7 J B := ⟨J, fun _ _ _ _ _ _ _ h => h, h⟩
theorem jn7_s {A0 A1 A2 A3 A4 A5 A6 : Type} {J : A0 → A1 → A2 → A3 → A4 → A5 → A6 → Prop} {B : (A0 → A1 → A2 → A3 → A4 → A5 → A6 → Prop) → Prop} (S : A0 → A1 → A2 → A3 → A4 → A5 → A6 → Prop) (hS : ∀ x0 x1 x2 x3 x4 x5 x6, S x0 x1 x2 x3 x4 x5 x6 → J x0 x1 x2 x3 x4 x5 x6) (h : B S) : jn7 J B := ⟨S, hS, h⟩
theorem nlp7_i {A0 A1 A2 A3 A4 A5 A6 : Type} {F : (A0 → A1 → A2 → A3 → A4 → A5 → A6 → Prop) → (A0 → A1 → A2 → A3 → A4 → A5 → A6 → Prop)} (Inv : A0 → A1 → A2 → A3 → A4 → A5 → A6 → Prop) (ms : A0 → A1 → A2 → A3 → A4 → A5 → A6 → Nat) (st : ∀ x0 x1 x2 x3 x4 x5 x6, Inv x0 x1 x2 x3 x4 x5 x6 → ∀ self : A0 → A1 → A2 → A3 → A4 → A5 → A6 → Prop, (∀ y0 y1 y2 y3 y4 y5 y6, Inv y0 y1 y2 y3 y4 y5 y6 → ms y0 y1 y2 y3 y4 y5 y6 < ms x0 x1 x2 x3 x4 x5 x6 → self y0 y1 y2 y3 y4 y5 y6) → F self x0 x1 x2 x3 x4 x5 x6) {x0 : A0} {x1 : A1} {x2 : A2} {x3 : A3} {x4 : A4} {x5 : A5} {x6 : A6} (h0 : Inv x0 x1 x2 x3 x4 x5 x6) : nlp7 F x0 x1 x2 x3 x4 x5 x6 := by
  intro P hP
  have key : ∀ n : Nat, ∀ x0 x1 x2 x3 x4 x5 x6, ms x0 x1 x2 x3 x4 x5 x6 < n → Inv x0 x1 x2 x3 x4 x5 x6 → P x0 x1 x2 x3 x4 x5 x6 := by
    intro n
    induction n with
    | zero =>
      intro x0 x1 x2 x3 x4 x5 x6 hm _
      exact absurd hm (Nat.not_lt_zero _)
    | succ n ih =>
      intro x0 x1 x2 x3 x4 x5 x6 hm hi
      exact hP _ _ _ _ _ _ _ (st _ _ _ _ _ _ _ hi P (fun y0 y1 y2 y3 y4 y5 y6 hy hlt => ih _ _ _ _ _ _ _ (by omega) hy))
  exact key _ _ _ _ _ _ _ _ (Nat.lt_succ_self _) h0
theorem jn8_i {A0 A1 A2 A3 A4 A5 A6 A7 : Type} {J : A0 → A1 → A2 → A3 → A4 → A5 → A6 → A7 → Prop} {B : (A0 → A1 → A2 → A3 → A4 → A5 → A6 → A7 → Prop) → Prop} (h : B J) : jn8 J B := ⟨J, fun _ _ _ _ _ _ _ _ h => h, h⟩
theorem jn8_s {A0 A1 A2 A3 A4 A5 A6 A7 : Type} {J : A0 → A1 → A2 → A3 → A4 → A5 → A6 → A7 → Prop} {B : (A0 → A1 → A2 → A3 → A4 → A5 → A6 → A7 → Prop) → Prop} (S : A0 → A1 → A2 → A3 → A4 → A5 → A6 → A7 → Prop) (hS : ∀ x0 x1 x2 x3 x4 x5 x6 x7, S x0 x1 x2 x3 x4 x5 x6 x7 → J x0 x1 x2 x3 x4 x5 x6 x7) (h : B S) : jn8 J B := ⟨S, hS, h⟩
theorem nlp8_i {A0 A1 A2 A3 A4 A5 A6 A7 : Type} {F : (A0 → A1 → A2 → A3 → A4 → A5 → A6 → A7 → Prop) → (A0 → A1 → A2 → A3 → A4 → A5 → A6 → A7 → Prop)} (Inv : A0 → A1 → A2 → A3 → A4 → A5 → A6 → A7 → Prop) (ms : A0 → A1 → A2 → A3 → A4 → A5 → A6 → A7 → Nat) (st : ∀ x0 x1 x2 x3 x4 x5 x6 x7, Inv x0 x1 x2 x3 x4 x5 x6 x7 → ∀ self : A0 → A1 → A2 → A3 → A4 → A5 → A6 → A7 → Prop, (∀ y0 y1 y2 y3 y4 y5 y6 y7, Inv y0 y1 y2 y3 y4 y5 y6 y7 → ms y0 y1 y2 y3 y4 y5 y6 y7 < ms x0 x1 x2 x3 x4 x5 x6 x7 → self y0 y1 y2 y3 y4 y5 y6 y7) → F self x0 x1 x2 x3 x4 x5 x6 x7) {x0 : A0} {x1 : A1} {x2 : A2} {x3 : A3} {x4 : A4} {x5 : A5} {x6 : A6} {x7 : A7} (h0 : Inv x0 x1 x2 x3 x4 x5 x6 x7) : nlp8 F x0 x1 x2 x3 x4 x5 x6 x7 := by
  intro P hP
  have key : ∀ n : Nat, ∀ x0 x1 x2 x3 x4 x5 x6 x7, ms x0 x1 x2 x3 x4 x5 x6 x7 < n → Inv x0 x1 x2 x3 x4 x5 x6 x7 → P x0 x1 x2 x3 x4 x5 x6 x7 := by
    intro n
    induction n with
    | zero =>
      intro x0 x1 x2 x3 x4 x5 x6 x7 hm _
      exact absurd hm (Nat.not_lt_zero _)
    | succ n ih =>
      intro x0 x1 x2 x3 x4 x5 x6 x7 hm hi
      exact hP _ _ _ _ _ _ _ _ (st _ _ _ _ _ _ _ _ hi P (fun y0 y1 y2 y3 y4 y5 y6 y7 hy hlt => ih _ _ _ _ _ _ _ _ (by omega) hy))
  exact key _ _ _ _ _ _ _ _ _ (Nat.lt_succ_self _) h0
theorem jn9_i {A0 A1 A2 A3 A4 A5 A6 A7 A8 : Type} {J : A0 → A1 → A2 → A3 → A4 → A5 → A6 → A7 → A8 → Prop} {B : (A0 → A1 → A2 → A3 → A4 → A5 → A6 → A7 → A8 → Prop) → Prop} (h : B J) : jn9 J B := ⟨J, fun _ _ _ _ _ _ _ _ _ h => h, h⟩
theorem jn9_s {A0 A1 A2 A3 A4 A5 A6 A7 A8 : Type} {J : A0 → A1 → A2 → A3 → A4 → A5 → A6 → A7 → A8 → Prop} {B : (A0 → A1 → A2 → A3 → A4 → A5 → A6 → A7 → A8 → Prop) → Prop} (S : A0 → A1 → A2 → A3 → A4 → A5 → A6 → A7 → A8 → Prop) (hS : ∀ x0 x1 x2 x3 x4 x5 x6 x7 x8, S x0 x1 x2 x3 x4 x5 x6 x7 x8 → J x0 x1 x2 x3 x4 x5 x6 x7 x8) (h : B S) : jn9 J B := ⟨S, hS, h⟩
theorem nlp9_i {A0 A1 A2 A3 A4 A5 A6 A7 A8 : Type} {F : (A0 → A1 → A2 → A3 → A4 → A5 → A6 → A7 → A8 → Prop) → (A0 → A1 → A2 → A3 → A4 → A5 → A6 → A7 → A8 → Prop)} (Inv : A0 → A1 → A2 → A3 → A4 → A5 → A6 → A7 → A8 → Prop) (ms : A0 → A1 → A2 → A3 → A4 → A5 → A6 → A7 → A8 → Nat) (st : ∀ x0 x1 x2 x3 x4 x5 x6 x7 x8, Inv x0 x1 x2 x3 x4 x5 x6 x7 x8 → ∀ self : A0 → A1 → A2 → A3 → A4 → A5 → A6 → A7 → A8 → Prop, (∀ y0 y1 y2 y3 y4 y5 y6 y7 y8, Inv y0 y1 y2 y3 y4 y5 y6 y7 y8 → ms y0 y1 y2 y3 y4 y5 y6 y7 y8 < ms x0 x1 x2 x3 x4 x5 x6 x7 x8 → self y0 y1 y2 y3 y4 y5 y6 y7 y8) → F self x0 x1 x2 x3 x4 x5 x6 x7 x8) {x0 : A0} {x1 : A1} {x2 : A2} {x3 : A3} {x4 : A4} {x5 : A5} {x6 : A6} {x7 : A7} {x8 : A8} (h0 : Inv x0 x1 x2 x3 x4 x5 x6 x7 x8) : nlp9 F x0 x1 x2 x3 x4 x5 x6 x7 x8 := by
  intro P hP
  have key : ∀ n : Nat, ∀ x0 x1 x2 x3 x4 x5 x6 x7 x8, ms x0 x1 x2 x3 x4 x5 x6 x7 x8 < n → Inv x0 x1 x2 x3 x4 x5 x6 x7 x8 → P x0 x1 x2 x3 x4 x5 x6 x7 x8 := by
    intro n
    induction n with
    | zero =>
      intro x0 x1 x2 x3 x4 x5 x6 x7 x8 hm _
      exact absurd hm (Nat.not_lt_zero _)
    | succ n ih =>
      intro x0 x1 x2 x3 x4 x5 x6 x7 x8 hm hi
      exact hP _ _ _ _ _ _ _ _ _ (st _ _ _ _ _ _ _ _ _ hi P (fun y0 y1 y2 y3 y4 y5 y6 y7 y8 hy hlt => ih _ _ _ _ _ _ _ _ _ (by omega) hy))
  exact key _ _ _ _ _ _ _ _ _ _ (Nat.lt_succ_self _) h0
theorem jn10_i {A0 A1 A2 A3 A4 A5 A6 A7 A8 A9 : Type} {J : A0 → A1 → A2 → A3 → A4 → A5 → A6 → A7 → A8 → A9 → Prop} {B : (A0 → A1 → A2 → A3 → A4 → A5 → A6 → A7 → A8 → A9 → Prop) → Prop} (h : B J) : jn10 J B := ⟨J, fun _ _ _ _ _ _ _ _ _ _ h => h, h⟩
theorem jn10_s {A0 A1 A2 A3 A4 A5 A6 A7 A8 A9 : Type} {J : A0 → A1 → A2 → A3 → A4 → A5 → A6 → A7 → A8 → A9 → Prop} {B : (A0 → A1 → A2 → A3 → A4 → A5 → A6 → A7 → A8 → A9 → Prop) → Prop} (S : A0 → A1 → A2 → A3 → A4 → A5 → A6 → A7 → A8 → A9 → Prop) (hS : ∀ x0 x1 x2 x3 x4 x5 x6 x7 x8 x9, S x0 x1 x2 x3 x4 x5 x6 x7 x8 x9 → J x0 x1 x2 x3 x4 x5 x6 x7 x8 x9) (h : B S) : jn10 J B := ⟨S, hS, h⟩
theorem nlp10_i {A0 A1 A2 A3 A4 A5 A6 A7 A8 A9 : Type} {F : (A0 → A1 → A2 → A3 → A4 → A5 → A6 → A7 → A8 → A9 → Prop) → (A0 → A1 → A2 → A3 → A4 → A5 → A6 → A7 → A8 → A9 → Prop)} (Inv : A0 → A1 → A2 → A3 → A4 → A5 → A6 → A7 → A8 → A9 → Prop) (ms : A0 → A1 → A2 → A3 → A4 → A5 → A6 → A7 → A8 → A9 → Nat) (st : ∀ x0 x1 x2 x3 x4 x5 x6 x7 x8 x9, Inv x0 x1 x2 x3 x4 x5 x6 x7 x8 x9 → ∀ self : A0 → A1 → A2 → A3 → A4 → A5 → A6 → A7 → A8 → A9 → Prop, (∀ y0 y1 y2 y3 y4 y5 y6 y7 y8 y9, Inv y0 y1 y2 y3 y4 y5 y6 y7 y8 y9 → ms y0 y1 y2 y3 y4 y5 y6 y7 y8 y9 < ms x0 x1 x2 x3 x4 x5 x6 x7 x8 x9 → self y0 y1 y2 y3 y4 y5 y6 y7 y8 y9) → F self x0 x1 x2 x3 x4 x5 x6 x7 x8 x9) {x0 : A0} {x1 : A1} {x2 : A2} {x3 : A3} {x4 : A4} {x5 : A5} {x6 : A6} {x7 : A7} {x8 : A8} {x9 : A9} (h0 : Inv x0 x1 x2 x3 x4 x5 x6 x7 x8 x9) : nlp10 F x0 x1 x2 x3 x4 x5 x6 x7 x8 x9 := by
  intro P hP
  have key : ∀ n : Nat, ∀ x0 x1 x2 x3 x4 x5 x6 x7 x8 x9, ms x0 x1 x2 x3 x4 x5 x6 x7 x8 x9 < n → Inv x0 x1 x2 x3 x4 x5 x6 x7 x8 x9 → P x0 x1 x2 x3 x4 x5 x6 x7 x8 x9 := by
    intro n
    induction n with
    | zero =>
      intro x0 x1 x2 x3 x4 x5 x6 x7 x8 x9 hm _
      exact absurd hm (Nat.not_lt_zero _)
    | succ n ih =>
      intro x0 x1 x2 x3 x4 x5 x6 x7 x8 x9 hm hi
      exact hP _ _ _ _ _ _ _ _ _ _ (st _ _ _ _ _ _ _ _ _ _ hi P (fun y0 y1 y2 y3 y4 y5 y6 y7 y8 y9 hy hlt => ih _ _ _ _ _ _ _ _ _ _ (by omega) hy))
  exact key _ _ _ _ _ _ _ _ _ _ _ (Nat.lt_succ_self _) h0
theorem jn11_i {A0 A1 A2 A3 A4 A5 A6 A7 A8 A9 A10 : Type} {J : A0 → A1 → A2 → A3 → A4 → A5 → A6 → A7 → A8 → A9 → A10 → Prop} {B : (A0 → A1 → A2 → A3 → A4 → A5 → A6 → A7 → A8 → A9 → A10 → Prop) → Prop} (h : B J) : jn11 J B := ⟨J, fun _ _ _ _ _ _ _ _ _ _ _ h => h, h⟩
theorem jn11_s {A0 A1 A2 A3 A4 A5 A6 A7 A8 A9 A10 : Type} {J : A0 → A1 → A2 → A3 → A4 → A5 → A6 → A7 → A8 → A9 → A10 → Prop} {B : (A0 → A1 → A2 → A3 → A4 → A5 → A6 → A7 → A8 → A9 → A10 → Prop) → Prop} (S : A0 → A1 → A2 → A3 → A4 → A5 → A6 → A7 → A8 → A9 → A10 → Prop) (hS : ∀ x0 x1 x2 x3 x4 x5 x6 x7 x8 x9 x10, S x0 x1 x2 x3 x4 x5 x6 x7 x8 x9 x10 → J x0 x1 x2 x3 x4 x5 x6 x7 x8 x9 x10) (h : B S) : jn11 J B := ⟨S, hS, h⟩
theorem nlp11_i {A0 A1 A2 A3 A4 A5 A6 A7 A8 A9 A10 : Type} {F : (A0 → A1 → A2 → A3 → A4 → A5 → A6 → A7 → A8 → A9 → A10 → Prop) → (A0 → A1 → A2 → A3 → A4 → A5 → A6 → A7 → A8 → A9 → A10 → Prop)} (Inv : A0 → A1 → A2 → A3 → A4 → A5 → A6 → A7 → A8 → A9 → A10 → Prop) (ms : A0 → A1 → A2 → A3 → A4 → A5 → A6 → A7 → A8 → A9 → A10 → Nat) (st : ∀ x0 x1 x2 x3 x4 x5 x6 x7 x8 x9 x10, Inv x0 x1 x2 x3 x4 x5 x6 x7 x8 x9 x10 → ∀ self : A0 → A1 → A2 → A3 → A4 → A5 → A6 → A7 → A8 → A9 → A10 → Prop, (∀ y0 y1 y2 y3 y4 y5 y6 y7 y8 y9 y10, Inv y0 y1 y2 y3 y4 y5 y6 y7 y8 y9 y10 → ms y0 y1 y2 y3 y4 y5 y6 y7 y8 y9 y10 < ms x0 x1 x2 x3 x4 x5 x6 x7 x8 x9 x10 → self y0 y1 y2 y3 y4 y5 y6 y7 y8 y9 y10) → F self x0 x1 x2 x3 x4 x5 x6 x7 x8 x9 x10) {x0 : A0} {x1 : A1} {x2 : A2} {x3 : A3} {x4 : A4} {x5 : A5} {x6 : A6} {x7 : A7} {x8 : A8} {x9 : A9} {x10 : A10} (h0 : Inv x0 x1 x2 x3 x4 x5 x6 x7 x8 x9 x10) : nlp11 F x0 x1 x2 x3 x4 x5 x6 x7 x8 x9 x10 := by
  intro P hP
  have key : ∀ n : Nat, ∀ x0 x1 x2 x3 x4 x5 x6 x7 x8 x9 x10, ms x0 x1 x2 x3 x4 x5 x6 x7 x8 x9 x10 < n → Inv x0 x1 x2 x3 x4 x5 x6 x7 x8 x9 x10 → P x0 x1 x2 x3 x4 x5 x6 x7 x8 x9 x10 := by
    intro n
    induction n with
    | zero =>
      intro x0 x1 x2 x3 x4 x5 x6 x7 x8 x9 x10 hm _
      exact absurd hm (Nat.not_lt_zero _)
    | succ n ih =>
      intro x0 x1 x2 x3 x4 x5 x6 x7 x8 x9 x10 hm hi
      exact hP _ _ _ _ _ _ _ _ _ _ _ (st _ _ _ _ _ _ _ _ _ _ _ hi P (fun y0 y1 y2 y3 y4 y5 y6 y7 y8 y9 y10 hy hlt => ih _ _ _ _ _ _ _ _ _ _ _ (by omega) hy))
  exact key _ _ _ _ _ _ _ _ _ _ _ _ (Nat.lt_succ_self _) h0
theorem jn12_i {A0 A1 A2 A3 A4 A5 A6 A7 A8 A9 A10 A11 : Type} {J : A0 → A1 → A2 → A3 → A4 → A5 → A6 → A7 → A8 → A9 → A10 → A11 → Prop} {B : (A0 → A1 → A2 → A3 → A4 → A5 → A6 → A7 → A8 → A9 → A10 → A11 → Prop) → Prop} (h : B J) : jn12 J B := ⟨J, fun _ _ _ _ _ _ _ _ _ _ _ _ h => h, h⟩
theorem jn12_s {A0 A1 A2 A3 A4 A5 A6 A7 A8 A9 A10 A11 : Type} {J : A0 → A1 → A2 → A3 → A4 → A5 → A6 → A7 → A8 → A9 → A10 → A11 → Prop} {B : (A0 → A1 → A2 → A3 → A4 → A5 → A6 → A7 → A8 → A9 → A10 → A11 → Prop) → Prop} (S : A0 → A1 → A2 → A3 → A4 → A5 → A6 → A7 → A8 → A9 → A10 → A11 → Prop) (hS : ∀ x0 x1 x2 x3 x4 x5 x6 x7 x8 x9 x10 x11, S x0 x1 x2 x3 x4 x5 x6 x7 x8 x9 x10 x11 → J x0 x1 x2 x3 x4 x5 x6 x7 x8 x9 x10 x11) (h : B S) : jn12 J B := ⟨S, hS, h⟩
theorem nlp12_i {A0 A1 A2 A3 A4 A5 A6 A7 A8 A9 A10 A11 : Type} {F : (A0 → A1 → A2 → A3 → A4 → A5 → A6 → A7 → A8 → A9 → A10 → A11 → Prop) → (A0 → A1 → A2 → A3 → A4 → A5 → A6 → A7 → A8 → A9 → A10 → A11 → Prop)} (Inv : A0 → A1 → A2 → A3 → A4 → A5 → A6 → A7 → A8 → A9 → A10 → A11 → Prop) (ms : A0 → A1 → A2 → A3 → A4 → A5 → A6 → A7 → A8 → A9 → A10 → A11 → Nat) (st : ∀ x0 x1 x2 x3 x4 x5 x6 x7 x8 x9 x10 x11, Inv x0 x1 x2 x3 x4 x5 x6 x7 x8 x9 x10 x11 → ∀ self : A0 → A1 → A2 → A3 → A4 → A5 → A6 → A7 → A8 → A9 → A10 → A11 → Prop, (∀ y0 y1 y2 y3 y4 y5 y6 y7 y8 y9 y10 y11, Inv y0 y1 y2 y3 y4 y5 y6 y7 y8 y9 y10 y11 → ms y0 y1 y2 y3 y4 y5 y6 y7 y8 y9 y10 y11 < ms x0 x1 x2 x3 x4 x5 x6 x7 x8 x9 x10 x11 → self y0 y1 y2 y3 y4 y5 y6 y7 y8 y9 y10 y11) → F self x0 x1 x2 x3 x4 x5 x6 x7 x8 x9 x10 x11) {x0 : A0} {x1 : A1} {x2 : A2} {x3 : A3} {x4 : A4} {x5 : A5} {x6 : A6} {x7 : A7} {x8 : A8} {x9 : A9} {x10 : A10} {x11 : A11} (h0 : Inv x0 x1 x2 x3 x4 x5 x6 x7 x8 x9 x10 x11) : nlp12 F x0 x1 x2 x3 x4 x5 x6 x7 x8 x9 x10 x11 := by
  intro P hP
  have key : ∀ n : Nat, ∀ x0 x1 x2 x3 x4 x5 x6 x7 x8 x9 x10 x11, ms x0 x1 x2 x3 x4 x5 x6 x7 x8 x9 x10 x11 < n → Inv x0 x1 x2 x3 x4 x5 x6 x7 x8 x9 x10 x11 → P x0 x1 x2 x3 x4 x5 x6 x7 x8 x9 x10 x11 := by
    intro n
    induction n with
    | zero =>
      intro x0 x1 x2 x3 x4 x5 x6 x7 x8 x9 x10 x11 hm _
      exact absurd hm (Nat.not_lt_zero _)
    | succ n ih =>
      intro x0 x1 x2 x3 x4 x5 x6 x7 x8 x9 x10 x11 hm hi
      exact hP _ _ _ _ _ _ _ _ _ _ _ _ (st _ _ _ _ _ _ _ _ _ _ _ _ hi P (fun y0 y1 y2 y3 y4 y5 y6 y7 y8 y9 y10 y11 hy hlt => ih _ _ _ _ _ _ _ _ _ _ _ _ (by omega) hy))
  exact key _ _ _ _ _ _ _ _ _ _ _ _ _ (Nat.lt_succ_self _) h0
theorem jn13_i {A0 A1 A2 A3 A4 A5 A6 A7 A8 A9 A10 A11 A12 : Type} {J : A0 → A1 → A2 → A3 → A4 → A5 → A6 → A7 → A8 → A9 → A10 → A11 → A12 → Prop} {B : (A0 → A1 → A2 → A3 → A4 → A5 → A6 → A7 → A8 → A9 → A10 → A11 → A12 → Prop) → Prop} (h : B J) : jn13 J B := ⟨J, fun _ _ _ _ _ _ _ _ _ _ _ _ _ h => h, h⟩
theorem jn13_s {A0 A1 A2 A3 A4 A5 A6 A7 A8 A9 A10 A11 A12 : Type} {J : A0 → A1 → A2 → A3 → A4 → A5 → A6 → A7 → A8 → A9 → A10 → A11 → A12 → Prop} {B : (A0 → A1 → A2 → A3 → A4 → A5 → A6 → A7 → A8 → A9 → A10 → A11 → A12 → Prop) → Prop} (S : A0 → A1 → A2 → A3 → A4 → A5 → A6 → A7 → A8 → A9 → A10 → A11 → A12 → Prop) (hS : ∀ x0 x1 x2 x3 x4 x5 x6 x7 x8 x9 x10 x11 x12, S x0 x1 x2 x3 x4 x5 x6 x7 x8 x9 x10 x11 x12 → J x0 x1 x2 x3 x4 x5 x6 x7 x8 x9 x10 x11 x12) (h : B S) : jn13 J B := ⟨S, hS, h⟩
theorem nlp13_i {A0 A1 A2 A3 A4 A5 A6 A7 A8 A9 A10 A11 A12 : Type} {F : (A0 → A1 → A2 → A3 → A4 → A5 → A6 → A7 → A8 → A9 → A10 → A11 → A12 → Prop) → (A0 → A1 → A2 → A3 → A4 → A5 → A6 → A7 → A8 → A9 → A10 → A11 → A12 → Prop)} (Inv : A0 → A1 → A2 → A3 → A4 → A5 → A6 → A7 → A8 → A9 → A10 → A11 → A12 → Prop) (ms : A0 → A1 → A2 → A3 → A4 → A5 → A6 → A7 → A8 → A9 → A10 → A11 → A12 → Nat) (st : ∀ x0 x1 x2 x3 x4 x5 x6 x7 x8 x9 x10 x11 x12, Inv x0 x1 x2 x3 x4 x5 x6 x7 x8 x9 x10 x11 x12 → ∀ self : A0 → A1 → A2 → A3 → A4 → A5 → A6 → A7 → A8 → A9 → A10 → A11 → A12 → Prop, (∀ y0 y1 y2 y3 y4 y5 y6 y7 y8 y9 y10 y11 y12, Inv y0 y1 y2 y3 y4 y5 y6 y7 y8 y9 y10 y11 y12 → ms y0 y1 y2 y3 y4 y5 y6 y7 y8 y9 y10 y11 y12 < ms x0 x1 x2 x3 x4 x5 x6 x7 x8 x9 x10 x11 x12 → self y0 y1 y2 y3 y4 y5 y6 y7 y8 y9 y10 y11 y12) → F self x0 x1 x2 x3 x4 x5 x6 x7 x8 x9 x10 x11 x12) {x0 : A0} {x1 : A1} {x2 : A2} {x3 : A3} {x4 : A4} {x5 : A5} {x6 : A6} {x7 : A7} {x8 : A8} {x9 : A9} {x10 : A10} {x11 : A11} {x12 : A12} (h0 : Inv x0 x1 x2 x3 x4 x5 x6 x7 x8 x9 x10 x11 x12) : nlp13 F x0 x1 x2 x3 x4 x5 x6 x7 x8 x9 x10 x11 x12 := by
  intro P hP
  have key : ∀ n : Nat, ∀ x0 x1 x2 x3 x4 x5 x6 x7 x8 x9 x10 x11 x12, ms x0 x1 x2 x3 x4 x5 x6 x7 x8 x9 x10 x11 x12 < n → Inv x0 x1 x2 x3 x4 x5 x6 x7 x8 x9 x10 x11 x12 → P x0 x1 x2 x3 x4 x5 x6 x7 x8 x9 x10 x11 x12 := by
    intro n
    induction n with
    | zero =>
      intro x0 x1 x2 x3 x4 x5 x6 x7 x8 x9 x10 x11 x12 hm _
      exact absurd hm (Nat.not_lt_zero _)
    | succ n ih =>
      intro x0 x1 x2 x3 x4 x5 x6 x7 x8 x9 x10 x11 x12 hm hi
      exact hP _ _ _ _ _ _ _ _ _ _ _ _ _ (st _ _ _ _ _ _ _ _ _ _ _ _ _ hi P (fun y0 y1 y2 y3 y4 y5 y6 y7 y8 y9 y10 y11 y12 hy hlt => ih _ _ _ _ _ _ _ _ _ _ _ _ _ (by omega) hy))
  exact key _ _ _ _ _ _ _ _ _ _ _ _ _ _ (Nat.lt_succ_self _) h0
theorem jn14_i {A0 A1 A2 A3 A4 A5 A6 A7 A8 A9 A10 A11 A12 A13 : Type} {J : A0 → A1 → A2 → A3 → A4 → A5 → A6 → A7 → A8 → A9 → A10 → A11 → A12 → A13 → Prop} {B : (A0 → A1 → A2 → A3 → A4 → A5 → A6 → A7 → A8 → A9 → A10 → A11 → A12 → A13 → Prop) → Prop} (h : B J) : jn14 J B := ⟨J, fun _ _ _ _ _ _ _ _ _ _ _ _ _ _ h => h, h⟩
theorem jn14_s {A0 A1 A2 A3 A4 A5 A6 A7 A8 A9 A10 A11 A12 A13 : Type} {J : A0 → A1 → A2 → A3 → A4 → A5 → A6 → A7 → A8 → A9 → A10 → A11 → A12 → A13 → Prop} {B : (A0 → A1 → A2 → A3 → A4 → A5 → A6 → A7 → A8 → A9 → A10 → A11 → A12 → A13 → Prop) → Prop} (S : A0 → A1 → A2 → A3 → A4 → A5 → A6 → A7 → A8 → A9 → A10 → A11 → A12 → A13 → Prop) (hS : ∀ x0 x1 x2 x3 x4 x5 x6 x7 x8 x9 x10 x11 x12 x13, S x0 x1 x2 x3 x4 x5 x6 x7 x8 x9 x10 x11 x12 x13 → J x0 x1 x2 x3 x4 x5 x6 x7 x8 x9 x10 x11 x12 x13) (h : B S) : jn14 J B := ⟨S, hS, h⟩
theorem nlp14_i {A0 A1 A2 A3 A4 A5 A6 A7 A8 A9 A10 A11 A12 A13 : Type} {F : (A0 → A1 → A2 → A3 → A4 → A5 → A6 → A7 → A8 → A9 → A10 → A11 → A12 → A13 → Prop) → (A0 → A1 → A2 → A3 → A4 → A5 → A6 → A7 → A8 → A9 → A10 → A11 → A12 → A13 → Prop)} (Inv : A0 → A1 → A2 → A3 → A4 → A5 → A6 → A7 → A8 → A9 → A10 → A11 → A12 → A13 → Prop) (ms : A0 → A1 → A2 → A3 → A4 → A5 → A6 → A7 → A8 → A9 → A10 → A11 → A12 → A13 → Nat) (st : ∀ x0 x1 x2 x3 x4 x5 x6 x7 x8 x9 x10 x11 x12 x13, Inv x0 x1 x2 x3 x4 x5 x6 x7 x8 x9 x10 x11 x12 x13 → ∀ self : A0 → A1 → A2 → A3 → A4 → A5 → A6 → A7 → A8 → A9 → A10 → A11 → A12 → A13 → Prop, (∀ y0 y1 y2 y3 y4 y5 y6 y7 y8 y9 y10 y11 y12 y13, Inv y0 y1 y2 y3 y4 y5 y6 y7 y8 y9 y10 y11 y12 y13 → ms y0 y1 y2 y3 y4 y5 y6 y7 y8 y9 y10 y11 y12 y13 < ms x0 x1 x2 x3 x4 x5 x6 x7 x8 x9 x10 x11 x12 x13 → self y0 y1 y2 y3 y4 y5 y6 y7 y8 y9 y10 y11 y12 y13) → F self x0 x1 x2 x3 x4 x5 x6 x7 x8 x9 x10 x11 x12 x13) {x0 : A0} {x1 : A1} {x2 : A2} {x3 : A3} {x4 : A4} {x5 : A5} {x6 : A6} {x7 : A7} {x8 : A8} {x9 : A9} {x10 : A10} {x11 : A11} {x12 : A12} {x13 : A13} (h0 : Inv x0 x1 x2 x3 x4 x5 x6 x7 x8 x9 x10 x11 x12 x13) : nlp14 F x0 x1 x2 x3 x4 x5 x6 x7 x8 x9 x10 x11 x12 x13 := by
  intro P hP
  have key : ∀ n : Nat, ∀ x0 x1 x2 x3 x4 x5 x6 x7 x8 x9 x10 x11 x12 x13, ms x0 x1 x2 x3 x4 x5 x6 x7 x8 x9 x10 x11 x12 x13 < n → Inv x0 x1 x2 x3 x4 x5 x6 x7 x8 x9 x10 x11 x12 x13 → P x0 x1 x2 x3 x4 x5 x6 x7 x8 x9 x10 x11 x12 x13 := by
    intro n
    induction n with
    | zero =>
      intro x0 x1 x2 x3 x4 x5 x6 x7 x8 x9 x10 x11 x12 x13 hm _
      exact absurd hm (Nat.not_lt_zero _)
    | succ n ih =>
      intro x0 x1 x2 x3 x4 x5 x6 x7 x8 x9 x10 x11 x12 x13 hm hi
      exact hP _ _ _ _ _ _ _ _ _ _ _ _ _ _ (st _ _ _ _ _ _ _ _ _ _ _ _ _ _ hi P (fun y0 y1 y2 y3 y4 y5 y6 y7 y8 y9 y10 y11 y12 y13 hy hlt => ih _ _ _ _ _ _ _ _ _ _ _ _ _ _ (by omega) hy))
  exact key _ _ _ _ _ _ _ _ _ _ _ _ _ _ _ (Nat.lt_succ_self _) h0
theorem jn15_i {A0 A1 A2 A3 A4 A5 A6 A7 A8 A9 A10 A11 A12 A13 A14 : Type} {J : A0 → A1 → A2 → A3 → A4 → A5 → A6 → A7 → A8 → A9 → A10 → A11 → A12 → A13 → A14 → Prop} {B : (A0 → A1 → A2 → A3 → A4 → A5 → A6 → A7 → A8 → A9 → A10 → A11 → A12 → A13 → A14 → Prop) → Prop} (h : B J) : jn15 J B := ⟨J, fun _ _ _ _ _ _ _ _ _ _ _ _ _ _ _ h => h, h⟩
theorem jn15_s {A0 A1 A2 A3 A4 A5 A6 A7 A8 A9 A10 A11 A12 A13 A14 : Type} {J : A0 → A1 → A2 → A3 → A4 → A5 → A6 → A7 → A8 → A9 → A10 → A11 → A12 → A13 → A14 → Prop} {B : (A0 → A1 → A2 → A3 → A4 → A5 → A6 → A7 → A8 → A9 → A10 → A11 → A12 → A13 → A14 → Prop) → Prop} (S : A0 → A1 → A2 → A3 → A4 → A5 → A6 → A7 → A8 → A9 → A10 → A11 → A12 → A13 → A14 → Prop) (hS : ∀ x0 x1 x2 x3 x4 x5 x6 x7 x8 x9 x10 x11 x12 x13 x14, S x0 x1 x2 x3 x4 x5 x6 x7 x8 x9 x10 x11 x12 x13 x14 → J x0 x1 x2 x3 x4 x5 x6 x7 x8 x9 x10 x11 x12 x13 x14) (h : B S) : jn15 J B := ⟨S, hS, h⟩
theorem nlp15_i {A0 A1 A2 A3 A4 A5 A6 A7 A8 A9 A10 A11 A12 A13 A14 : Type} {F : (A0 → A1 → A2 → A3 → A4 → A5 → A6 → A7 → A8 → A9 → A10 → A11 → A12 → A13 → A14 → Prop) → (A0 → A1 → A2 → A3 → A4 → A5 → A6 → A7 → A8 → A9 → A10 → A11 → A12 → A13 → A14 → Prop)} (Inv : A0 → A1 → A2 → A3 → A4 → A5 → A6 → A7 → A8 → A9 → A10 → A11 → A12 → A13 → A14 → Prop) (ms : A0 → A1 → A2 → A3 → A4 → A5 → A6 → A7 → A8 → A9 → A10 → A11 → A12 → A13 → A14 → Nat) (st : ∀ x0 x1 x2 x3 x4 x5 x6 x7 x8 x9 x10 x11 x12 x13 x14, Inv x0 x1 x2 x3 x4 x5 x6 x7 x8 x9 x10 x11 x12 x13 x14 → ∀ self : A0 → A1 → A2 → A3 → A4 → A5 → A6 → A7 → A8 → A9 → A10 → A11 → A12 → A13 → A14 → Prop, (∀ y0 y1 y2 y3 y4 y5 y6 y7 y8 y9 y10 y11 y12 y13 y14, Inv y0 y1 y2 y3 y4 y5 y6 y7 y8 y9 y10 y11 y12 y13 y14 → ms y0 y1 y2 y3 y4 y5 y6 y7 y8 y9 y10 y11 y12 y13 y14 < ms x0 x1 x2 x3 x4 x5 x6 x7 x8 x9 x10 x11 x12 x13 x14 → self y0 y1 y2 y3 y4 y5 y6 y7 y8 y9 y10 y11 y12 y13 y14) → F self x0 x1 x2 x3 x4 x5 x6 x7 x8 x9 x10 x11 x12 x13 x14) {x0 : A0} {x1 : A1} {x2 : A2} {x3 : A3} {x4 : A4} {x5 : A5} {x6 : A6} {x7 : A7} {x8 : A8} {x9 : A9} {x10 : A10} {x11 : A11} {x12 : A12} {x13 : A13} {x14 : A14} (h0 : Inv x0 x1 x2 x3 x4 x5 x6 x7 x8 x9 x10 x11 x12 x13 x14) : nlp15 F x0 x1 x2 x3 x4 x5 x6 x7 x8 x9 x10 x11 x12 x13 x14 := by
  intro P hP
  have key : ∀ n : Nat, ∀ x0 x1 x2 x3 x4 x5 x6 x7 x8 x9 x10 x11 x12 x13 x14, ms x0 x1 x2 x3 x4 x5 x6 x7 x8 x9 x10 x11 x12 x13 x14 < n → Inv x0 x1 x2 x3 x4 x5 x6 x7 x8 x9 x10 x11 x12 x13 x14 → P x0 x1 x2 x3 x4 x5 x6 x7 x8 x9 x10 x11 x12 x13 x14 := by
    intro n
    induction n with
    | zero =>
      intro x0 x1 x2 x3 x4 x5 x6 x7 x8 x9 x10 x11 x12 x13 x14 hm _
      exact absurd hm (Nat.not_lt_zero _)
    | succ n ih =>
      intro x0 x1 x2 x3 x4 x5 x6 x7 x8 x9 x10 x11 x12 x13 x14 hm hi
      exact hP _ _ _ _ _ _ _ _ _ _ _ _ _ _ _ (st _ _ _ _ _ _ _ _ _ _ _ _ _ _ _ hi P (fun y0 y1 y2 y3 y4 y5 y6 y7 y8 y9 y10 y11 y12 y13 y14 hy hlt => ih _ _ _ _ _ _ _ _ _ _ _ _ _ _ _ (by omega) hy))
  exact key _ _ _ _ _ _ _ _ _ _ _ _ _ _ _ _ (Nat.lt_succ_self _) h0
theorem jn16_i {A0 A1 A2 A3 A4 A5 A6 A7 A8 A9 A10 A11 A12 A13 A14 A15 : Type} {J : A0 → A1 → A2 → A3 → A4 → A5 → A6 → A7 → A8 → A9 → A10 → A11 → A12 → A13 → A14 → A15 → Prop} {B : (A0 → A1 → A2 → A3 → A4 → A5 → A6 → A7 → A8 → A9 → A10 → A11 → A12 → A13 → A14 → A15 → Prop) → Prop} (h : B J) : jn16 J B := ⟨J, fun _ _ _ _ _ _ _ _ _ _ _ _ _ _ _ _ h => h, h⟩
theorem jn16_s {A0 A1 A2 A3 A4 A5 A6 A7 A8 A9 A10 A11 A12 A13 A14 A15 : Type} {J : A0 → A1 → A2 → A3 → A4 → A5 → A6 → A7 → A8 → A9 → A10 → A11 → A12 → A13 → A14 → A15 → Prop} {B : (A0 → A1 → A2 → A3 → A4 → A5 → A6 → A7 → A8 → A9 → A10 → A11 → A12 → A13 → A14 → A15 → Prop) → Prop} (S : A0 → A1 → A2 → A3 → A4 → A5 → A6 → A7 → A8 → A9 → A10 → A11 → A12 → A13 → A14 → A15 → Prop) (hS : ∀ x0 x1 x2 x3 x4 x5 x6 x7 x8 x9 x10 x11 x12 x13 x14 x15, S x0 x1 x2 x3 x4 x5 x6 x7 x8 x9 x10 x11 x12 x13 x14 x15 → J x0 x1 x2 x3 x4 x5 x6 x7 x8 x9 x10 x11 x12 x13 x14 x15) (h : B S) : jn16 J B := ⟨S, hS, h⟩
theorem nlp16_i {A0 A1 A2 A3 A4 A5 A6 A7 A8 A9 A10 A11 A12 A13 A14 A15 : Type} {F : (A0 → A1 → A2 → A3 → A4 → A5 → A6 → A7 → A8 → A9 → A10 → A11 → A12 → A13 → A14 → A15 → Prop) → (A0 → A1 → A2 → A3 → A4 → A5 → A6 → A7 → A8 → A9 → A10 → A11 → A12 → A13 → A14 → A15 → Prop)} (Inv : A0 → A1 → A2 → A3 → A4 → A5 → A6 → A7 → A8 → A9 → A10 → A11 → A12 → A13 → A14 → A15 → Prop) (ms : A0 → A1 → A2 → A3 → A4 → A5 → A6 → A7 → A8 → A9 → A10 → A11 → A12 → A13 → A14 → A15 → Nat) (st : ∀ x0 x1 x2 x3 x4 x5 x6 x7 x8 x9 x10 x11 x12 x13 x14 x15, Inv x0 x1 x2 x3 x4 x5 x6 x7 x8 x9 x10 x11 x12 x13 x14 x15 → ∀ self : A0 → A1 → A2 → A3 → A4 → A5 → A6 → A7 → A8 → A9 → A10 → A11 → A12 → A13 → A14 → A15 → Prop, (∀ y0 y1 y2 y3 y4 y5 y6 y7 y8 y9 y10 y11 y12 y13 y14 y15, Inv y0 y1 y2 y3 y4 y5 y6 y7 y8 y9 y10 y11 y12 y13 y14 y15 → ms y0 y1 y2 y3 y4 y5 y6 y7 y8 y9 y10 y11 y12 y13 y14 y15 < ms x0 x1 x2 x3 x4 x5 x6 x7 x8 x9 x10 x11 x12 x13 x14 x15 → self y0 y1 y2 y3 y4 y5 y6 y7 y8 y9 y10 y11 y12 y13 y14 y15) → F self x0 x1 x2 x3 x4 x5 x6 x7 x8 x9 x10 x11 x12 x13 x14 x15) {x0 : A0} {x1 : A1} {x2 : A2} {x3 : A3} {x4 : A4} {x5 : A5} {x6 : A6} {x7 : A7} {x8 : A8} {x9 : A9} {x10 : A10} {x11 : A11} {x12 : A12} {x13 : A13} {x14 : A14} {x15 : A15} (h0 : Inv x0 x1 x2 x3 x4 x5 x6 x7 x8 x9 x10 x11 x12 x13 x14 x15) : nlp16 F x0 x1 x2 x3 x4 x5 x6 x7 x8 x9 x10 x11 x12 x13 x14 x15 := by
  intro P hP
  have key : ∀ n : Nat, ∀ x0 x1 x2 x3 x4 x5 x6 x7 x8 x9 x10 x11 x12 x13 x14 x15, ms x0 x1 x2 x3 x4 x5 x6 x7 x8 x9 x10 x11 x12 x13 x14 x15 < n → Inv x0 x1 x2 x3 x4 x5 x6 x7 x8 x9 x10 x11 x12 x13 x14 x15 → P x0 x1 x2 x3 x4 x5 x6 x7 x8 x9 x10 x11 x12 x13 x14 x15 := by
    intro n
    induction n with
    | zero =>
      intro x0 x1 x2 x3 x4 x5 x6 x7 x8 x9 x10 x11 x12 x13 x14 x15 hm _
      exact absurd hm (Nat.not_lt_zero _)
    | succ n ih =>
      intro x0 x1 x2 x3 x4 x5 x6 x7 x8 x9 x10 x11 x12 x13 x14 x15 hm hi
      exact hP _ _ _ _ _ _ _ _ _ _ _ _ _ _ _ _ (st _ _ _ _ _ _ _ _ _ _ _ _ _ _ _ _ hi P (fun y0 y1 y2 y3 y4 y5 y6 y7 y8 y9 y10 y11 y12 y13 y14 y15 hy hlt => ih _ _ _ _ _ _ _ _ _ _ _ _ _ _ _ _ (by omega) hy))
  exact key _ _ _ _ _ _ _ _ _ _ _ _ _ _ _ _ _ (Nat.lt_succ_self _) h0
theorem jn17_i {A0 A1 A2 A3 A4 A5 A6 A7 A8 A9 A10 A11 A12 A13 A14 A15 A16 : Type} {J : A0 → A1 → A2 → A3 → A4 → A5 → A6 → A7 → A8 → A9 → A10 → A11 → A12 → A13 → A14 → A15 → A16 → Prop} {B : (A0 → A1 → A2 → A3 → A4 → A5 → A6 → A7 → A8 → A9 → A10 → A11 → A12 → A13 → A14 → A15 → A16 → Prop) → Prop} (h : B J) : jn17 J B := ⟨J, fun _ _ _ _ _ _ _ _ _ _ _ _ _ _ _ _ _ h => h, h⟩
theorem jn17_s {A0 A1 A2 A3 A4 A5 A6 A7 A8 A9 A10 A11 A12 A13 A14 A15 A16 : Type} {J : A0 → A1 → A2 → A3 → A4 → A5 → A6 → A7 → A8 → A9 → A10 → A11 → A12 → A13 → A14 → A15 → A16 → Prop} {B : (A0 → A1 → A2 → A3 → A4 → A5 → A6 → A7 → A8 → A9 → A10 → A11 → A12 → A13 → A14 → A15 → A16 → Prop) → Prop} (S : A0 → A1 → A2 → A3 → A4 → A5 → A6 → A7 → A8 → A9 → A10 → A11 → A12 → A13 → A14 → A15 → A16 → Prop) (hS : ∀ x0 x1 x2 x3 x4 x5 x6 x7 x8 x9 x10 x11 x12 x13 x14 x15 x16, S x0 x1 x2 x3 x4 x5 x6 x7 x8 x9 x10 x11 x12 x13 x14 x15 x16 → J x0 x1 x2 x3 x4 x5 x6 x7 x8 x9 x10 x11 x12 x13 x14 x15 x16) (h : B S) : jn17 J B := ⟨S, hS, h⟩
theorem nlp17_i {A0 A1 A2 A3 A4 A5 A6 A7 A8 A9 A10 A11 A12 A13 A14 A15 A16 : Type} {F : (A0 → A1 → A2 → A3 → A4 → A5 → A6 → A7 → A8 → A9 → A10 → A11 → A12 → A13 → A14 → A15 → A16 → Prop) → (A0 → A1 → A2 → A3 → A4 → A5 → A6 → A7 → A8 → A9 → A10 → A11 → A12 → A13 → A14 → A15 → A16 → Prop)} (Inv : A0 → A1 → A2 → A3 → A4 → A5 → A6 → A7 → A8 → A9 → A10 → A11 → A12 → A13 → A14 → A15 → A16 → Prop) (ms : A0 → A1 → A2 → A3 → A4 → A5 → A6 → A7 → A8 → A9 → A10 → A11 → A12 → A13 → A14 → A15 → A16 → Nat) (st : ∀ x0 x1 x2 x3 x4 x5 x6 x7 x8 x9 x10 x11 x12 x13 x14 x15 x16, Inv x0 x1 x2 x3 x4 x5 x6 x7 x8 x9 x10 x11 x12 x13 x14 x15 x16 → ∀ self : A0 → A1 → A2 → A3 → A4 → A5 → A6 → A7 → A8 → A9 → A10 → A11 → A12 → A13 → A14 → A15 → A16 → Prop, (∀ y0 y1 y2 y3 y4 y5 y6 y7 y8 y9 y10 y11 y12 y13 y14 y15 y16, Inv y0 y1 y2 y3 y4 y5 y6 y7 y8 y9 y10 y11 y12 y13 y14 y15 y16 → ms y0 y1 y2 y3 y4 y5 y6 y7 y8 y9 y10 y11 y12 y13 y14 y15 y16 < ms x0 x1 x2 x3 x4 x5 x6 x7 x8 x9 x10 x11 x12 x13 x14 x15 x16 → self y0 y1 y2 y3 y4 y5 y6 y7 y8 y9 y10 y11 y12 y13 y14 y15 y16) → F self x0 x1 x2 x3 x4 x5 x6 x7 x8 x9 x10 x11 x12 x13 x14 x15 x16) {x0 : A0} {x1 : A1} {x2 : A2} {x3 : A3} {x4 : A4} {x5 : A5} {x6 : A6} {x7 : A7} {x8 : A8} {x9 : A9} {x10 : A10} {x11 : A11} {x12 : A12} {x13 : A13} {x14 : A14} {x15 : A15} {x16 : A16} (h0 : Inv x0 x1 x2 x3 x4 x5 x6 x7 x8 x9 x10 x11 x12 x13 x14 x15 x16) : nlp17 F x0 x1 x2 x3 x4 x5 x6 x7 x8 x9 x10 x11 x12 x13 x14 x15 x16 := by
  intro P hP
  have key : ∀ n : Nat, ∀ x0 x1 x2 x3 x4 x5 x6 x7 x8 x9 x10 x11 x12 x13 x14 x15 x16, ms x0 x1 x2 x3 x4 x5 x6 x7 x8 x9 x10 x11 x12 x13 x14 x15 x16 < n → Inv x0 x1 x2 x3 x4 x5 x6 x7 x8 x9 x10 x11 x12 x13 x14 x15 x16 → P x0 x1 x2 x3 x4 x5 x6 x7 x8 x9 x10 x11 x12 x13 x14 x15 x16 := by
    intro n
    induction n with
    | zero =>
      intro x0 x1 x2 x3 x4 x5 x6 x7 x8 x9 x10 x11 x12 x13 x14 x15 x16 hm _
      exact absurd hm (Nat.not_lt_zero _)
    | succ n ih =>
      intro x0 x1 x2 x3 x4 x5 x6 x7 x8 x9 x10 x11 x12 x13 x14 x15 x16 hm hi
      exact hP _ _ _ _ _ _ _ _ _ _ _ _ _ _ _ _ _ (st _ _ _ _ _ _ _ _ _ _ _ _ _ _ _ _ _ hi P (fun y0 y1 y2 y3 y4 y5 y6 y7 y8 y9 y10 y11 y12 y13 y14 y15 y16 hy hlt => ih _ _ _ _ _ _ _ _ _ _ _ _ _ _ _ _ _ (by omega) hy))
  exact key _ _ _ _ _ _ _ _ _ _ _ _ _ _ _ _ _ _ (Nat.lt_succ_self _) h0
theorem jn18_i {A0 A1 A2 A3 A4 A5 A6 A7 A8 A9 A10 A11 A12 A13 A14 A15 A16 A17 : Type} {J : A0 → A1 → A2 → A3 → A4 → A5 → A6 → A7 → A8 → A9 → A10 → A11 → A12 → A13 → A14 → A15 → A16 → A17 → Prop} {B : (A0 → A1 → A2 → A3 → A4 → A5 → A6 → A7 → A8 → A9 → A10 → A11 → A12 → A13 → A14 → A15 → A16 → A17 → Prop) → Prop} (h : B J) : jn18 J B := ⟨J, fun _ _ _ _ _ _ _ _ _ _ _ _ _ _ _ _ _ _ h => h, h⟩
theorem jn18_s {A0 A1 A2 A3 A4 A5 A6 A7 A8 A9 A10 A11 A12 A13 A14 A15 A16 A17 : Type} {J : A0 → A1 → A2 → A3 → A4 → A5 → A6 → A7 → A8 → A9 → A10 → A11 → A12 → A13 → A14 → A15 → A16 → A17 → Prop} {B : (A0 → A1 → A2 → A3 → A4 → A5 → A6 → A7 → A8 → A9 → A10 → A11 → A12 → A13 → A14 → A15 → A16 → A17 → Prop) → Prop} (S : A0 → A1 → A2 → A3 → A4 → A5 → A6 → A7 → A8 → A9 → A10 → A11 → A12 → A13 → A14 → A15 → A16 → A17 → Prop) (hS : ∀ x0 x1 x2 x3 x4 x5 x6 x7 x8 x9 x10 x11 x12 x13 x14 x15 x16 x17, S x0 x1 x2 x3 x4 x5 x6 x7 x8 x9 x10 x11 x12 x13 x14 x15 x16 x17 → J x0 x1 x2 x3 x4 x5 x6 x7 x8 x9 x10 x11 x12 x13 x14 x15 x16 x17) (h : B S) : jn18 J B := ⟨S, hS, h⟩
theorem nlp18_i {A0 A1 A2 A3 A4 A5 A6 A7 A8 A9 A10 A11 A12 A13 A14 A15 A16 A17 : Type} {F : (A0 → A1 → A2 → A3 → A4 → A5 → A6 → A7 → A8 → A9 → A10 → A11 → A12 → A13 → A14 → A15 → A16 → A17 → Prop) → (A0 → A1 → A2 → A3 → A4 → A5 → A6 → A7 → A8 → A9 → A10 → A11 → A12 → A13 → A14 → A15 → A16 → A17 → Prop)} (Inv : A0 → A1 → A2 → A3 → A4 → A5 → A6 → A7 → A8 → A9 → A10 → A11 → A12 → A13 → A14 → A15 → A16 → A17 → Prop) (ms : A0 → A1 → A2 → A3 → A4 → A5 → A6 → A7 → A8 → A9 → A10 → A11 → A12 → A13 → A14 → A15 → A16 → A17 → Nat) (st : ∀ x0 x1 x2 x3 x4 x5 x6 x7 x8 x9 x10 x11 x12 x13 x14 x15 x16 x17, Inv x0 x1 x2 x3 x4 x5 x6 x7 x8 x9 x10 x11 x12 x13 x14 x15 x16 x17 → ∀ self : A0 → A1 → A2 → A3 → A4 → A5 → A6 → A7 → A8 → A9 → A10 → A11 → A12 → A13 → A14 → A15 → A16 → A17 → Prop, (∀ y0 y1 y2 y3 y4 y5 y6 y7 y8 y9 y10 y11 y12 y13 y14 y15 y16 y17, Inv y0 y1 y2 y3 y4 y5 y6 y7 y8 y9 y10 y11 y12 y13 y14 y15 y16 y17 → ms y0 y1 y2 y3 y4 y5 y6 y7 y8 y9 y10 y11 y12 y13 y14 y15 y16 y17 < ms x0 x1 x2 x3 x4 x5 x6 x7 x8 x9 x10 x11 x12 x13 x14 x15 x16 x17 → self y0 y1 y2 y3 y4 y5 y6 y7 y8 y9 y10 y11 y12 y13 y14 y15 y16 y17) → F self x0 x1 x2 x3 x4 x5 x6 x7 x8 x9 x10 x11 x12 x13 x14 x15 x16 x17) {x0 : A0} {x1 : A1} {x2 : A2} {x3 : A3} {x4 : A4} {x5 : A5} {x6 : A6} {x7 : A7} {x8 : A8} {x9 : A9} {x10 : A10} {x11 : A11} {x12 : A12} {x13 : A13} {x14 : A14} {x15 : A15} {x16 : A16} {x17 : A17} (h0 : Inv x0 x1 x2 x3 x4 x5 x6 x7 x8 x9 x10 x11 x12 x13 x14 x15 x16 x17) : nlp18 F x0 x1 x2 x3 x4 x5 x6 x7 x8 x9 x10 x11 x12 x13 x14 x15 x16 x17 := by
  intro P hP
  have key : ∀ n : Nat, ∀ x0 x1 x2 x3 x4 x5 x6 x7 x8 x9 x10 x11 x12 x13 x14 x15 x16 x17, ms x0 x1 x2 x3 x4 x5 x6 x7 x8 x9 x10 x11 x12 x13 x14 x15 x16 x17 < n → Inv x0 x1 x2 x3 x4 x5 x6 x7 x8 x9 x10 x11 x12 x13 x14 x15 x16 x17 → P x0 x1 x2 x3 x4 x5 x6 x7 x8 x9 x10 x11 x12 x13 x14 x15 x16 x17 := by
    intro n
    induction n with
    | zero =>
      intro x0 x1 x2 x3 x4 x5 x6 x7 x8 x9 x10 x11 x12 x13 x14 x15 x16 x17 hm _
      exact absurd hm (Nat.not_lt_zero _)
    | succ n ih =>
      intro x0 x1 x2 x3 x4 x5 x6 x7 x8 x9 x10 x11 x12 x13 x14 x15 x16 x17 hm hi
      exact hP _ _ _ _ _ _ _ _ _ _ _ _ _ _ _ _ _ _ (st _ _ _ _ _ _ _ _ _ _ _ _ _ _ _ _ _ _ hi P (fun y0 y1 y2 y3 y4 y5 y6 y7 y8 y9 y10 y11 y12 y13 y14 y15 y16 y17 hy hlt => ih _ _ _ _ _ _ _ _ _ _ _ _ _ _ _ _ _ _ (by omega) hy))
  exact key _ _ _ _ _ _ _ _ _ _ _ _ _ _ _ _ _ _ _ (Nat.lt_succ_self _) h0
theorem jn19_i {A0 A1 A2 A3 A4 A5 A6 A7 A8 A9 A10 A11 A12 A13 A14 A15 A16 A17 A18 : Type} {J : A0 → A1 → A2 → A3 → A4 → A5 → A6 → A7 → A8 → A9 → A10 → A11 → A12 → A13 → A14 → A15 → A16 → A17 → A18 → Prop} {B : (A0 → A1 → A2 → A3 → A4 → A5 → A6 → A7 → A8 → A9 → A10 → A11 → A12 → A13 → A14 → A15 → A16 → A17 → A18 → Prop) → Prop} (h : B J) : jn19 J B := ⟨J, fun _ _ _ _ _ _ _ _ _ _ _ _ _ _ _ _ _ _ _ h => h, h⟩
theorem jn19_s {A0 A1 A2 A3 A4 A5 A6 A7 A8 A9 A10 A11 A12 A13 A14 A15 A16 A17 A18 : Type} {J : A0 → A1 → A2 → A3 → A4 → A5 → A6 → A7 → A8 → A9 → A10 → A11 → A12 → A13 → A14 → A15 → A16 → A17 → A18 → Prop} {B : (A0 → A1 → A2 → A3 → A4 → A5 → A6 → A7 → A8 → A9 → A10 → A11 → A12 → A13 → A14 → A15 → A16 → A17 → A18 → Prop) → Prop} (S : A0 → A1 → A2 → A3 → A4 → A5 → A6 → A7 → A8 → A9 → A10 → A11 → A12 → A13 → A14 → A15 → A16 → A17 → A18 → Prop) (hS : ∀ x0 x1 x2 x3 x4 x5 x6 x7 x8 x9 x10 x11 x12 x13 x14 x15 x16 x17 x18, S x0 x1 x2 x3 x4 x5 x6 x7 x8 x9 x10 x11 x12 x13 x14 x15 x16 x17 x18 → J x0 x1 x2 x3 x4 x5 x6 x7 x8 x9 x10 x11 x12 x13 x14 x15 x16 x17 x18) (h : B S) : jn19 J B := ⟨S, hS, h⟩
theorem nlp19_i {A0 A1 A2 A3 A4 A5 A6 A7 A8 A9 A10 A11 A12 A13 A14 A15 A16 A17 A18 : Type} {F : (A0 → A1 → A2 → A3 → A4 → A5 → A6 → A7 → A8 → A9 → A10 → A11 → A12 → A13 → A14 → A15 → A16 → A17 → A18 → Prop) → (A0 → A1 → A2 → A3 → A4 → A5 → A6 → A7 → A8 → A9 → A10 → A11 → A12 → A13 → A14 → A15 → A16 → A17 → A18 → Prop)} (Inv : A0 → A1 → A2 → A3 → A4 → A5 → A6 → A7 → A8 → A9 → A10 → A11 → A12 → A13 → A14 → A15 → A16 → A17 → A18 → Prop) (ms : A0 → A1 → A2 → A3 → A4 → A5 → A6 → A7 → A8 → A9 → A10 → A11 → A12 → A13 → A14 → A15 → A16 → A17 → A18 → Nat) (st : ∀ x0 x1 x2 x3 x4 x5 x6 x7 x8 x9 x10 x11 x12 x13 x14 x15 x16 x17 x18, Inv x0 x1 x2 x3 x4 x5 x6 x7 x8 x9 x10 x11 x12 x13 x14 x15 x16 x17 x18 → ∀ self : A0 → A1 → A2 → A3 → A4 → A5 → A6 → A7 → A8 → A9 → A10 → A11 → A12 → A13 → A14 → A15 → A16 → A17 → A18 → Prop, (∀ y0 y1 y2 y3 y4 y5 y6 y7 y8 y9 y10 y11 y12 y13 y14 y15 y16 y17 y18, Inv y0 y1 y2 y3 y4 y5 y6 y7 y8 y9 y10 y11 y12 y13 y14 y15 y16 y17 y18 → ms y0 y1 y2 y3 y4 y5 y6 y7 y8 y9 y10 y11 y12 y13 y14 y15 y16 y17 y18 < ms x0 x1 x2 x3 x4 x5 x6 x7 x8 x9 x10 x11 x12 x13 x14 x15 x16 x17 x18 → self y0 y1 y2 y3 y4 y5 y6 y7 y8 y9 y10 y11 y12 y13 y14 y15 y16 y17 y18) → F self x0 x1 x2 x3 x4 x5 x6 x7 x8 x9 x10 x11 x12 x13 x14 x15 x16 x17 x18) {x0 : A0} {x1 : A1} {x2 : A2} {x3 : A3} {x4 : A4} {x5 : A5} {x6 : A6} {x7 : A7} {x8 : A8} {x9 : A9} {x10 : A10} {x11 : A11} {x12 : A12} {x13 : A13} {x14 : A14} {x15 : A15} {x16 : A16} {x17 : A17} {x18 : A18} (h0 : Inv x0 x1 x2 x3 x4 x5 x6 x7 x8 x9 x10 x11 x12 x13 x14 x15 x16 x17 x18) : nlp19 F x0 x1 x2 x3 x4 x5 x6 x7 x8 x9 x10 x11 x12 x13 x14 x15 x16 x17 x18 := by
  intro P hP
  have key : ∀ n : Nat, ∀ x0 x1 x2 x3 x4 x5 x6 x7 x8 x9 x10 x11 x12 x13 x14 x15 x16 x17 x18, ms x0 x1 x2 x3 x4 x5 x6 x7 x8 x9 x10 x11 x12 x13 x14 x15 x16 x17 x18 < n → Inv x0 x1 x2 x3 x4 x5 x6 x7 x8 x9 x10 x11 x12 x13 x14 x15 x16 x17 x18 → P x0 x1 x2 x3 x4 x5 x6 x7 x8 x9 x10 x11 x12 x13 x14 x15 x16 x17 x18 := by
    intro n
    induction n with
    | zero =>
      intro x0 x1 x2 x3 x4 x5 x6 x7 x8 x9 x10 x11 x12 x13 x14 x15 x16 x17 x18 hm _
      exact absurd hm (Nat.not_lt_zero _)
    | succ n ih =>
      intro x0 x1 x2 x3 x4 x5 x6 x7 x8 x9 x10 x11 x12 x13 x14 x15 x16 x17 x18 hm hi
      exact hP _ _ _ _ _ _ _ _ _ _ _ _ _ _ _ _ _ _ _ (st _ _ _ _ _ _ _ _ _ _ _ _ _ _ _ _ _ _ _ hi P (fun y0 y1 y2 y3 y4 y5 y6 y7 y8 y9 y10 y11 y12 y13 y14 y15 y16 y17 y18 hy hlt => ih _ _ _ _ _ _ _ _ _ _ _ _ _ _ _ _ _ _ _ (by omega) hy))
  exact key _ _ _ _ _ _ _ _ _ _ _ _ _ _ _ _ _ _ _ _ (Nat.lt_succ_self _) h0
theorem jn20_i {A0 A1 A2 A3 A4 A5 A6 A7 A8 A9 A10 A11 A12 A13 A14 A15 A16 A17 A18 A19 : Type} {J : A0 → A1 → A2 → A3 → A4 → A5 → A6 → A7 → A8 → A9 → A10 → A11 → A12 → A13 → A14 → A15 → A16 → A17 → A18 → A19 → Prop} {B : (A0 → A1 → A2 → A3 → A4 → A5 → A6 → A7 → A8 → A9 → A10 → A11 → A12 → A13 → A14 → A15 → A16 → A17 → A18 → A19 → Prop) → Prop} (h : B J) : jn20 J B := ⟨J, fun _ _ _ _ _ _ _ _ _ _ _ _ _ _ _ _ _ _ _ _ h => h, h⟩
theorem jn20_s {A0 A1 A2 A3 A4 A5 A6 A7 A8 A9 A10 A11 A12 A13 A14 A15 A16 A17 A18 A19 : Type} {J : A0 → A1 → A2 → A3 → A4 → A5 → A6 → A7 → A8 → A9 → A10 → A11 → A12 → A13 → A14 → A15 → A16 → A17 → A18 → A19 → Prop} {B : (A0 → A1 → A2 → A3 → A4 → A5 → A6 → A7 → A8 → A9 → A10 → A11 → A12 → A13 → A14 → A15 → A16 → A17 → A18 → A19 → Prop) → Prop} (S : A0 → A1 → A2 → A3 → A4 → A5 → A6 → A7 → A8 → A9 → A10 → A11 → A12 → A13 → A14 → A15 → A16 → A17 → A18 → A19 → Prop) (hS : ∀ x0 x1 x2 x3 x4 x5 x6 x7 x8 x9 x10 x11 x12 x13 x14 x15 x16 x17 x18 x19, S x0 x1 x2 x3 x4 x5 x6 x7 x8 x9 x10 x11 x12 x13 x14 x15 x16 x17 x18 x19 → J x0 x1 x2 x3 x4 x5 x6 x7 x8 x9 x10 x11 x12 x13 x14 x15 x16 x17 x18 x19) (h : B S) : jn20 J B := ⟨S, hS, h⟩
theorem nlp20_i {A0 A1 A2 A3 A4 A5 A6 A7 A8 A9 A10 A11 A12 A13 A14 A15 A16 A17 A18 A19 : Type} {F : (A0 → A1 → A2 → A3 → A4 → A5 → A6 → A7 → A8 → A9 → A10 → A11 → A12 → A13 → A14 → A15 → A16 → A17 → A18 → A19 → Prop) → (A0 → A1 → A2 → A3 → A4 → A5 → A6 → A7 → A8 → A9 → A10 → A11 → A12 → A13 → A14 → A15 → A16 → A17 → A18 → A19 → Prop)} (Inv : A0 → A1 → A2 → A3 → A4 → A5 → A6 → A7 → A8 → A9 → A10 → A11 → A12 → A13 → A14 → A15 → A16 → A17 → A18 → A19 → Prop) (ms : A0 → A1 → A2 → A3 → A4 → A5 → A6 → A7 → A8 → A9 → A10 → A11 → A12 → A13 → A14 → A15 → A16 → A17 → A18 → A19 → Nat) (st : ∀ x0 x1 x2 x3 x4 x5 x6 x7 x8 x9 x10 x11 x12 x13 x14 x15 x16 x17 x18 x19, Inv x0 x1 x2 x3 x4 x5 x6 x7 x8 x9 x10 x11 x12 x13 x14 x15 x16 x17 x18 x19 → ∀ self : A0 → A1 → A2 → A3 → A4 → A5 → A6 → A7 → A8 → A9 → A10 → A11 → A12 → A13 → A14 → A15 → A16 → A17 → A18 → A19 → Prop, (∀ y0 y1 y2 y3 y4 y5 y6 y7 y8 y9 y10 y11 y12 y13 y14 y15 y16 y17 y18 y19, Inv y0 y1 y2 y3 y4 y5 y6 y7 y8 y9 y10 y11 y12 y13 y14 y15 y16 y17 y18 y19 → ms y0 y1 y2 y3 y4 y5 y6 y7 y8 y9 y10 y11 y12 y13 y14 y15 y16 y17 y18 y19 < ms x0 x1 x2 x3 x4 x5 x6 x7 x8 x9 x10 x11 x12 x13 x14 x15 x16 x17 x18 x19 → self y0 y1 y2 y3 y4 y5 y6 y7 y8 y9 y10 y11 y12 y13 y14 y15 y16 y17 y18 y19) → F self x0 x1 x2 x3 x4 x5 x6 x7 x8 x9 x10 x11 x12 x13 x14 x15 x16 x17 x18 x19) {x0 : A0} {x1 : A1} {x2 : A2} {x3 : A3} {x4 : A4} {x5 : A5} {x6 : A6} {x7 : A7} {x8 : A8} {x9 : A9} {x10 : A10} {x11 : A11} {x12 : A12} {x13 : A13} {x14 : A14} {x15 : A15} {x16 : A16} {x17 : A17} {x18 : A18} {x19 : A19} (h0 : Inv x0 x1 x2 x3 x4 x5 x6 x7 x8 x9 x10 x11 x12 x13 x14 x15 x16 x17 x18 x19) : nlp20 F x0 x1 x2 x3 x4 x5 x6 x7 x8 x9 x10 x11 x12 x13 x14 x15 x16 x17 x18 x19 := by
  intro P hP
  have key : ∀ n : Nat, ∀ x0 x1 x2 x3 x4 x5 x6 x7 x8 x9 x10 x11 x12 x13 x14 x15 x16 x17 x18 x19, ms x0 x1 x2 x3 x4 x5 x6 x7 x8 x9 x10 x11 x12 x13 x14 x15 x16 x17 x18 x19 < n → Inv x0 x1 x2 x3 x4 x5 x6 x7 x8 x9 x10 x11 x12 x13 x14 x15 x16 x17 x18 x19 → P x0 x1 x2 x3 x4 x5 x6 x7 x8 x9 x10 x11 x12 x13 x14 x15 x16 x17 x18 x19 := by
    intro n
    induction n with
    | zero =>
      intro x0 x1 x2 x3 x4 x5 x6 x7 x8 x9 x10 x11 x12 x13 x14 x15 x16 x17 x18 x19 hm _
      exact absurd hm (Nat.not_lt_zero _)
    | succ n ih =>
      intro x0 x1 x2 x3 x4 x5 x6 x7 x8 x9 x10 x11 x12 x13 x14 x15 x16 x17 x18 x19 hm hi
      exact hP _ _ _ _ _ _ _ _ _ _ _ _ _ _ _ _ _ _ _ _ (st _ _ _ _ _ _ _ _ _ _ _ _ _ _ _ _ _ _ _ _ hi P (fun y0 y1 y2 y3 y4 y5 y6 y7 y8 y9 y10 y11 y12 y13 y14 y15 y16 y17 y18 y19 hy hlt => ih _ _ _ _ _ _ _ _ _ _ _ _ _ _ _ _ _ _ _ _ (by omega) hy))
  exact key _ _ _ _ _ _ _ _ _ _ _ _ _ _ _ _ _ _ _ _ _ (Nat.lt_succ_self _) h0
theorem jn21_i {A0 A1 A2 A3 A4 A5 A6 A7 A8 A9 A10 A11 A12 A13 A14 A15 A16 A17 A18 A19 A20 : Type} {J : A0 → A1 → A2 → A3 → A4 → A5 → A6 → A7 → A8 → A9 → A10 → A11 → A12 → A13 → A14 → A15 → A16 → A17 → A18 → A19 → A20 → Prop} {B : (A0 → A1 → A2 → A3 → A4 → A5 → A6 → A7 → A8 → A9 → A10 → A11 → A12 → A13 → A14 → A15 → A16 → A17 → A18 → A19 → A20 → Prop) → Prop} (h : B J) : jn21 J B := ⟨J, fun _ _ _ _ _ _ _ _ _ _ _ _ _ _ _ _ _ _ _ _ _ h => h, h⟩
theorem jn21_s {A0 A1 A2 A3 A4 A5 A6 A7 A8 A9 A10 A11 A12 A13 A14 A15 A16 A17 A18 A19 A20 : Type} {J : A0 → A1 → A2 → A3 → A4 → A5 → A6 → A7 → A8 → A9 → A10 → A11 → A12 → A13 → A14 → A15 → A16 → A17 → A18 → A19 → A20 → Prop} {B : (A0 → A1 → A2 → A3 → A4 → A5 → A6 → A7 → A8 → A9 → A10 → A11 → A12 → A13 → A14 → A15 → A16 → A17 → A18 → A19 → A20 → Prop) → Prop} (S : A0 → A1 → A2 → A3 → A4 → A5 → A6 → A7 → A8 → A9 → A10 → A11 → A12 → A13 → A14 → A15 → A16 → A17 → A18 → A19 → A20 → Prop) (hS : ∀ x0 x1 x2 x3 x4 x5 x6 x7 x8 x9 x10 x11 x12 x13 x14 x15 x16 x17 x18 x19 x20, S x0 x1 x2 x3 x4 x5 x6 x7 x8 x9 x10 x11 x12 x13 x14 x15 x16 x17 x18 x19 x20 → J x0 x1 x2 x3 x4 x5 x6 x7 x8 x9 x10 x11 x12 x13 x14 x15 x16 x17 x18 x19 x20) (h : B S) : jn21 J B := ⟨S, hS, h⟩
theorem nlp21_i {A0 A1 A2 A3 A4 A5 A6 A7 A8 A9 A10 A11 A12 A13 A14 A15 A16 A17 A18 A19 A20 : Type} {F : (A0 → A1 → A2 → A3 → A4 → A5 → A6 → A7 → A8 → A9 → A10 → A11 → A12 → A13 → A14 → A15 → A16 → A17 → A18 → A19 → A20 → Prop) → (A0 → A1 → A2 → A3 → A4 → A5 → A6 → A7 → A8 → A9 → A10 → A11 → A12 → A13 → A14 → A15 → A16 → A17 → A18 → A19 → A20 → Prop)} (Inv : A0 → A1 → A2 → A3 → A4 → A5 → A6 → A7 → A8 → A9 → A10 → A11 → A12 → A13 → A14 → A15 → A16 → A17 → A18 → A19 → A20 → Prop) (ms : A0 → A1 → A2 → A3 → A4 → A5 → A6 → A7 → A8 → A9 → A10 → A11 → A12 → A13 → A14 → A15 → A16 → A17 → A18 → A19 → A20 → Nat) (st : ∀ x0 x1 x2 x3 x4 x5 x6 x7 x8 x9 x10 x11 x12 x13 x14 x15 x16 x17 x18 x19 x20, Inv x0 x1 x2 x3 x4 x5 x6 x7 x8 x9 x10 x11 x12 x13 x14 x15 x16 x17 x18 x19 x20 → ∀ self : A0 → A1 → A2 → A3 → A4 → A5 → A6 → A7 → A8 → A9 → A10 → A11 → A12 → A13 → A14 → A15 → A16 → A17 → A18 → A19 → A20 → Prop, (∀ y0 y1 y2 y3 y4 y5 y6 y7 y8 y9 y10 y11 y12 y13 y14 y15 y16 y17 y18 y19 y20, Inv y0 y1 y2 y3 y4 y5 y6 y7 y8 y9 y10 y11 y12 y13 y14 y15 y16 y17 y18 y19 y20 → ms y0 y1 y2 y3 y4 y5 y6 y7 y8 y9 y10 y11 y12 y13 y14 y15 y16 y17 y18 y19 y20 < ms x0 x1 x2 x3 x4 x5 x6 x7 x8 x9 x10 x11 x12 x13 x14 x15 x16 x17 x18 x19 x20 → self y0 y1 y2 y3 y4 y5 y6 y7 y8 y9 y10 y11 y12 y13 y14 y15 y16 y17 y18 y19 y20) → F self x0 x1 x2 x3 x4 x5 x6 x7 x8 x9 x10 x11 x12 x13 x14 x15 x16 x17 x18 x19 x20) {x0 : A0} {x1 : A1} {x2 : A2} {x3 : A3} {x4 : A4} {x5 : A5} {x6 : A6} {x7 : A7} {x8 : A8} {x9 : A9} {x10 : A10} {x11 : A11} {x12 : A12} {x13 : A13} {x14 : A14} {x15 : A15} {x16 : A16} {x17 : A17} {x18 : A18} {x19 : A19} {x20 : A20} (h0 : Inv x0 x1 x2 x3 x4 x5 x6 x7 x8 x9 x10 x11 x12 x13 x14 x15 x16 x17 x18 x19 x20) : nlp21 F x0 x1 x2 x3 x4 x5 x6 x7 x8 x9 x10 x11 x12 x13 x14 x15 x16 x17 x18 x19 x20 := by
  intro P hP
  have key : ∀ n : Nat, ∀ x0 x1 x2 x3 x4 x5 x6 x7 x8 x9 x10 x11 x12 x13 x14 x15 x16 x17 x18 x19 x20, ms x0 x1 x2 x3 x4 x5 x6 x7 x8 x9 x10 x11 x12 x13 x14 x15 x16 x17 x18 x19 x20 < n → Inv x0 x1 x2 x3 x4 x5 x6 x7 x8 x9 x10 x11 x12 x13 x14 x15 x16 x17 x18 x19 x20 → P x0 x1 x2 x3 x4 x5 x6 x7 x8 x9 x10 x11 x12 x13 x14 x15 x16 x17 x18 x19 x20 := by
    intro n
    induction n with
    | zero =>
      intro x0 x1 x2 x3 x4 x5 x6 x7 x8 x9 x10 x11 x12 x13 x14 x15 x16 x17 x18 x19 x20 hm _
      exact absurd hm (Nat.not_lt_zero _)
    | succ n ih =>
      intro x0 x1 x2 x3 x4 x5 x6 x7 x8 x9 x10 x11 x12 x13 x14 x15 x16 x17 x18 x19 x20 hm hi
      exact hP _ _ _ _ _ _ _ _ _ _ _ _ _ _ _ _ _ _ _ _ _ (st _ _ _ _ _ _ _ _ _ _ _ _ _ _ _ _ _ _ _ _ _ hi P (fun y0 y1 y2 y3 y4 y5 y6 y7 y8 y9 y10 y11 y12 y13 y14 y15 y16 y17 y18 y19 y20 hy hlt => ih _ _ _ _ _ _ _ _ _ _ _ _ _ _ _ _ _ _ _ _ _ (by omega) hy))
  exact key _ _ _ _ _ _ _ _ _ _ _ _ _ _ _ _ _ _ _ _ _ _ (Nat.lt_succ_self _) h0
theorem jn22_i {A0 A1 A2 A3 A4 A5 A6 A7 A8 A9 A10 A11 A12 A13 A14 A15 A16 A17 A18 A19 A20 A21 : Type} {J : A0 → A1 → A2 → A3 → A4 → A5 → A6 → A7 → A8 → A9 → A10 → A11 → A12 → A13 → A14 → A15 → A16 → A17 → A18 → A19 → A20 → A21 → Prop} {B : (A0 → A1 → A2 → A3 → A4 → A5 → A6 → A7 → A8 → A9 → A10 → A11 → A12 → A13 → A14 → A15 → A16 → A17 → A18 → A19 → A20 → A21 → Prop) → Prop} (h : B J) : jn22 J B := ⟨J, fun _ _ _ _ _ _ _ _ _ _ _ _ _ _ _ _ _ _ _ _ _ _ h => h, h⟩
theorem jn22_s {A0 A1 A2 A3 A4 A5 A6 A7 A8 A9 A10 A11 A12 A13 A14 A15 A16 A17 A18 A19 A20 A21 : Type} {J : A0 → A1 → A2 → A3 → A4 → A5 → A6 → A7 → A8 → A9 → A10 → A11 → A12 → A13 → A14 → A15 → A16 → A17 → A18 → A19 → A20 → A21 → Prop} {B : (A0 → A1 → A2 → A3 → A4 → A5 → A6 → A7 → A8 → A9 → A10 → A11 → A12 → A13 → A14 → A15 → A16 → A17 → A18 → A19 → A20 → A21 → Prop) → Prop} (S : A0 → A1 → A2 → A3 → A4 → A5 → A6 → A7 → A8 → A9 → A10 → A11 → A12 → A13 → A14 → A15 → A16 → A17 → A18 → A19 → A20 → A21 → Prop) (hS : ∀ x0 x1 x2 x3 x4 x5 x6 x7 x8 x9 x10 x11 x12 x13 x14 x15 x16 x17 x18 x19 x20 x21, S x0 x1 x2 x3 x4 x5 x6 x7 x8 x9 x10 x11 x12 x13 x14 x15 x16 x17 x18 x19 x20 x21 → J x0 x1 x2 x3 x4 x5 x6 x7 x8 x9 x10 x11 x12 x13 x14 x15 x16 x17 x18 x19 x20 x21) (h : B S) : jn22 J B := ⟨S, hS, h⟩
theorem nlp22_i {A0 A1 A2 A3 A4 A5 A6 A7 A8 A9 A10 A11 A12 A13 A14 A15 A16 A17 A18 A19 A20 A21 : Type} {F : (A0 → A1 → A2 → A3 → A4 → A5 → A6 → A7 → A8 → A9 → A10 → A11 → A12 → A13 → A14 → A15 → A16 → A17 → A18 → A19 → A20 → A21 → Prop) → (A0 → A1 → A2 → A3 → A4 → A5 → A6 → A7 → A8 → A9 → A10 → A11 → A12 → A13 → A14 → A15 → A16 → A17 → A18 → A19 → A20 → A21 → Prop)} (Inv : A0 → A1 → A2 → A3 → A4 → A5 → A6 → A7 → A8 → A9 → A10 → A11 → A12 → A13 → A14 → A15 → A16 → A17 → A18 → A19 → A20 → A21 → Prop) (ms : A0 → A1 → A2 → A3 → A4 → A5 → A6 → A7 → A8 → A9 → A10 → A11 → A12 → A13 → A14 → A15 → A16 → A17 → A18 → A19 → A20 → A21 → Nat) (st : ∀ x0 x1 x2 x3 x4 x5 x6 x7 x8 x9 x10 x11 x12 x13 x14 x15 x16 x17 x18 x19 x20 x21, Inv x0 x1 x2 x3 x4 x5 x6 x7 x8 x9 x10 x11 x12 x13 x14 x15 x16 x17 x18 x19 x20 x21 → ∀ self : A0 → A1 → A2 → A3 → A4 → A5 → A6 → A7 → A8 → A9 → A10 → A11 → A12 → A13 → A14 → A15 → A16 → A17 → A18 → A19 → A20 → A21 → Prop, (∀ y0 y1 y2 y3 y4 y5 y6 y7 y8 y9 y10 y11 y12 y13 y14 y15 y16 y17 y18 y19 y20 y21, Inv y0 y1 y2 y3 y4 y5 y6 y7 y8 y9 y10 y11 y12 y13 y14 y15 y16 y17 y18 y19 y20 y21 → ms y0 y1 y2 y3 y4 y5 y6 y7 y8 y9 y10 y11 y12 y13 y14 y15 y16 y17 y18 y19 y20 y21 < ms x0 x1 x2 x3 x4 x5 x6 x7 x8 x9 x10 x11 x12 x13 x14 x15 x16 x17 x18 x19 x20 x21 → self y0 y1 y2 y3 y4 y5 y6 y7 y8 y9 y10 y11 y12 y13 y14 y15 y16 y17 y18 y19 y20 y21) → F self x0 x1 x2 x3 x4 x5 x6 x7 x8 x9 x10 x11 x12 x13 x14 x15 x16 x17 x18 x19 x20 x21) {x0 : A0} {x1 : A1} {x2 : A2} {x3 : A3} {x4 : A4} {x5 : A5} {x6 : A6} {x7 : A7} {x8 : A8} {x9 : A9} {x10 : A10} {x11 : A11} {x12 : A12} {x13 : A13} {x14 : A14} {x15 : A15} {x16 : A16} {x17 : A17} {x18 : A18} {x19 : A19} {x20 : A20} {x21 : A21} (h0 : Inv x0 x1 x2 x3 x4 x5 x6 x7 x8 x9 x10 x11 x12 x13 x14 x15 x16 x17 x18 x19 x20 x21) : nlp22 F x0 x1 x2 x3 x4 x5 x6 x7 x8 x9 x10 x11 x12 x13 x14 x15 x16 x17 x18 x19 x20 x21 := by
  intro P hP
  have key : ∀ n : Nat, ∀ x0 x1 x2 x3 x4 x5 x6 x7 x8 x9 x10 x11 x12 x13 x14 x15 x16 x17 x18 x19 x20 x21, ms x0 x1 x2 x3 x4 x5 x6 x7 x8 x9 x10 x11 x12 x13 x14 x15 x16 x17 x18 x19 x20 x21 < n → Inv x0 x1 x2 x3 x4 x5 x6 x7 x8 x9 x10 x11 x12 x13 x14 x15 x16 x17 x18 x19 x20 x21 → P x0 x1 x2 x3 x4 x5 x6 x7 x8 x9 x10 x11 x12 x13 x14 x15 x16 x17 x18 x19 x20 x21 := by
    intro n
    induction n with
    | zero =>
      intro x0 x1 x2 x3 x4 x5 x6 x7 x8 x9 x10 x11 x12 x13 x14 x15 x16 x17 x18 x19 x20 x21 hm _
      exact absurd hm (Nat.not_lt_zero _)
    | succ n ih =>
      intro x0 x1 x2 x3 x4 x5 x6 x7 x8 x9 x10 x11 x12 x13 x14 x15 x16 x17 x18 x19 x20 x21 hm hi
      exact hP _ _ _ _ _ _ _ _ _ _ _ _ _ _ _ _ _ _ _ _ _ _ (st _ _ _ _ _ _ _ _ _ _ _ _ _ _ _ _ _ _ _ _ _ _ hi P (fun y0 y1 y2 y3 y4 y5 y6 y7 y8 y9 y10 y11 y12 y13 y14 y15 y16 y17 y18 y19 y20 y21 hy hlt => ih _ _ _ _ _ _ _ _ _ _ _ _ _ _ _ _ _ _ _ _ _ _ (by omega) hy))
  exact key _ _ _ _ _ _ _ _ _ _ _ _ _ _ _ _ _ _ _ _ _ _ _ (Nat.lt_succ_self _) h0
theorem jn23_i {A0 A1 A2 A3 A4 A5 A6 A7 A8 A9 A10 A11 A12 A13 A14 A15 A16 A17 A18 A19 A20 A21 A22 : Type} {J : A0 → A1 → A2 → A3 → A4 → A5 → A6 → A7 → A8 → A9 → A10 → A11 → A12 → A13 → A14 → A15 → A16 → A17 → A18 → A19 → A20 → A21 → A22 → Prop} {B : (A0 → A1 → A2 → A3 → A4 → A5 → A6 → A7 → A8 → A9 → A10 → A11 → A12 → A13 → A14 → A15 → A16 → A17 → A18 → A19 → A20 → A21 → A22 → Prop) → Prop} (h : B J) : jn23 J B := ⟨J, fun _ _ _ _ _ _ _ _ _ _ _ _ _ _ _ _ _ _ _ _ _ _ _ h => h, h⟩
theorem jn23_s {A0 A1 A2 A3 A4 A5 A6 A7 A8 A9 A10 A11 A12 A13 A14 A15 A16 A17 A18 A19 A20 A21 A22 : Type} {J : A0 → A1 → A2 → A3 → A4 → A5 → A6 → A7 → A8 → A9 → A10 → A11 → A12 → A13 → A14 → A15 → A16 → A17 → A18 → A19 → A20 → A21 → A22 → Prop} {B : (A0 → A1 → A2 → A3 → A4 → A5 → A6 → A7 → A8 → A9 → A10 → A11 → A12 → A13 → A14 → A15 → A16 → A17 → A18 → A19 → A20 → A21 → A22 → Prop) → Prop} (S : A0 → A1 → A2 → A3 → A4 → A5 → A6 → A7 → A8 → A9 → A10 → A11 → A12 → A13 → A14 → A15 → A16 → A17 → A18 → A19 → A20 → A21 → A22 → Prop) (hS : ∀ x0 x1 x2 x3 x4 x5 x6 x7 x8 x9 x10 x11 x12 x13 x14 x15 x16 x17 x18 x19 x20 x21 x22, S x0 x1 x2 x3 x4 x5 x6 x7 x8 x9 x10 x11 x12 x13 x14 x15 x16 x17 x18 x19 x20 x21 x22 → J x0 x1 x2 x3 x4 x5 x6 x7 x8 x9 x10 x11 x12 x13 x14 x15 x16 x17 x18 x19 x20 x21 x22) (h : B S) : jn23 J B := ⟨S, hS, h⟩
theorem nlp23_i {A0 A1 A2 A3 A4 A5 A6 A7 A8 A9 A10 A11 A12 A13 A14 A15 A16 A17 A18 A19 A20 A21 A22 : Type} {F : (A0 → A1 → A2 → A3 → A4 → A5 → A6 → A7 → A8 → A9 → A10 → A11 → A12 → A13 → A14 → A15 → A16 → A17 → A18 → A19 → A20 → A21 → A22 → Prop) → (A0 → A1 → A2 → A3 → A4 → A5 → A6 → A7 → A8 → A9 → A10 → A11 → A12 → A13 → A14 → A15 → A16 → A17 → A18 → A19 → A20 → A21 → A22 → Prop)} (Inv : A0 → A1 → A2 → A3 → A4 → A5 → A6 → A7 → A8 → A9 → A10 → A11 → A12 → A13 → A14 → A15 → A16 → A17 → A18 → A19 → A20 → A21 → A22 → Prop) (ms : A0 → A1 → A2 → A3 → A4 → A5 → A6 → A7 → A8 → A9 → A10 → A11 → A12 → A13 → A14 → A15 → A16 → A17 → A18 → A19 → A20 → A21 → A22 → Nat) (st : ∀ x0 x1 x2 x3 x4 x5 x6 x7 x8 x9 x10 x11 x12 x13 x14 x15 x16 x17 x18 x19 x20 x21 x22, Inv x0 x1 x2 x3 x4 x5 x6 x7 x8 x9 x10 x11 x12 x13 x14 x15 x16 x17 x18 x19 x20 x21 x22 → ∀ self : A0 → A1 → A2 → A3 → A4 → A5 → A6 → A7 → A8 → A9 → A10 → A11 → A12 → A13 → A14 → A15 → A16 → A17 → A18 → A19 → A20 → A21 → A22 → Prop, (∀ y0 y1 y2 y3 y4 y5 y6 y7 y8 y9 y10 y11 y12 y13 y14 y15 y16 y17 y18 y19 y20 y21 y22, Inv y0 y1 y2 y3 y4 y5 y6 y7 y8 y9 y10 y11 y12 y13 y14 y15 y16 y17 y18 y19 y20 y21 y22 → ms y0 y1 y2 y3 y4 y5 y6 y7 y8 y9 y10 y11 y12 y13 y14 y15 y16 y17 y18 y19 y20 y21 y22 < ms x0 x1 x2 x3 x4 x5 x6 x7 x8 x9 x10 x11 x12 x13 x14 x15 x16 x17 x18 x19 x20 x21 x22 → self y0 y1 y2 y3 y4 y5 y6 y7 y8 y9 y10 y11 y12 y13 y14 y15 y16 y17 y18 y19 y20 y21 y22) → F self x0 x1 x2 x3 x4 x5 x6 x7 x8 x9 x10 x11 x12 x13 x14 x15 x16 x17 x18 x19 x20 x21 x22) {x0 : A0} {x1 : A1} {x2 : A2} {x3 : A3} {x4 : A4} {x5 : A5} {x6 : A6} {x7 : A7} {x8 : A8} {x9 : A9} {x10 : A10} {x11 : A11} {x12 : A12} {x13 : A13} {x14 : A14} {x15 : A15} {x16 : A16} {x17 : A17} {x18 : A18} {x19 : A19} {x20 : A20} {x21 : A21} {x22 : A22} (h0 : Inv x0 x1 x2 x3 x4 x5 x6 x7 x8 x9 x10 x11 x12 x13 x14 x15 x16 x17 x18 x19 x20 x21 x22) : nlp23 F x0 x1 x2 x3 x4 x5 x6 x7 x8 x9 x10 x11 x12 x13 x14 x15 x16 x17 x18 x19 x20 x21 x22 := by
  intro P hP
  have key : ∀ n : Nat, ∀ x0 x1 x2 x3 x4 x5 x6 x7 x8 x9 x10 x11 x12 x13 x14 x15 x16 x17 x18 x19 x20 x21 x22, ms x0 x1 x2 x3 x4 x5 x6 x7 x8 x9 x10 x11 x12 x13 x14 x15 x16 x17 x18 x19 x20 x21 x22 < n → Inv x0 x1 x2 x3 x4 x5 x6 x7 x8 x9 x10 x11 x12 x13 x14 x15 x16 x17 x18 x19 x20 x21 x22 → P x0 x1 x2 x3 x4 x5 x6 x7 x8 x9 x10 x11 x12 x13 x14 x15 x16 x17 x18 x19 x20 x21 x22 := by
    intro n
    induction n with
    | zero =>
      intro x0 x1 x2 x3 x4 x5 x6 x7 x8 x9 x10 x11 x12 x13 x14 x15 x16 x17 x18 x19 x20 x21 x22 hm _
      exact absurd hm (Nat.not_lt_zero _)
    | succ n ih =>
      intro x0 x1 x2 x3 x4 x5 x6 x7 x8 x9 x10 x11 x12 x13 x14 x15 x16 x17 x18 x19 x20 x21 x22 hm hi
      exact hP _ _ _ _ _ _ _ _ _ _ _ _ _ _ _ _ _ _ _ _ _ _ _ (st _ _ _ _ _ _ _ _ _ _ _ _ _ _ _ _ _ _ _ _ _ _ _ hi P (fun y0 y1 y2 y3 y4 y5 y6 y7 y8 y9 y10 y11 y12 y13 y14 y15 y16 y17 y18 y19 y20 y21 y22 hy hlt => ih _ _ _ _ _ _ _ _ _ _ _ _ _ _ _ _ _ _ _ _ _ _ _ (by omega) hy))
  exact key _ _ _ _ _ _ _ _ _ _ _ _ _ _ _ _ _ _ _ _ _ _ _ _ (Nat.lt_succ_self _) h0
theorem jn24_i {A0 A1 A2 A3 A4 A5 A6 A7 A8 A9 A10 A11 A12 A13 A14 A15 A16 A17 A18 A19 A20 A21 A22 A23 : Type} {J : A0 → A1 → A2 → A3 → A4 → A5 → A6 → A7 → A8 → A9 → A10 → A11 → A12 → A13 → A14 → A15 → A16 → A17 → A18 → A19 → A20 → A21 → A22 → A23 → Prop} {B : (A0 → A1 → A2 → A3 → A4 → A5 → A6 → A7 → A8 → A9 → A10 → A11 → A12 → A13 → A14 → A15 → A16 → A17 → A18 → A19 → A20 → A21 → A22 → A23 → Prop) → Prop} (h : B J) : jn24 J B := ⟨J, fun _ _ _ _ _ _ _ _ _ _ _ _ _ _ _ _ _ _ _ _ _ _ _ _ h => h, h⟩
theorem jn24_s {A0 A1 A2 A3 A4 A5 A6 A7 A8 A9 A10 A11 A12 A13 A14 A15 A16 A17 A18 A19 A20 A21 A22 A23 : Type} {J : A0 → A1 → A2 → A3 → A4 → A5 → A6 → A7 → A8 → A9 → A10 → A11 → A12 → A13 → A14 → A15 → A16 → A17 → A18 → A19 → A20 → A21 → A22 → A23 → Prop} {B : (A0 → A1 → A2 → A3 → A4 → A5 → A6 → A7 → A8 → A9 → A10 → A11 → A12 → A13 → A14 → A15 → A16 → A17 → A18 → A19 → A20 → A21 → A22 → A23 → Prop) → Prop} (S : A0 → A1 → A2 → A3 → A4 → A5 → A6 → A7 → A8 → A9 → A10 → A11 → A12 → A13 → A14 → A15 → A16 → A17 → A18 → A19 → A20 → A21 → A22 → A23 → Prop) (hS : ∀ x0 x1 x2 x3 x4 x5 x6 x7 x8 x9 x10 x11 x12 x13 x14 x15 x16 x17 x18 x19 x20 x21 x22 x23, S x0 x1 x2 x3 x4 x5 x6 x7 x8 x9 x10 x11 x12 x13 x14 x15 x16 x17 x18 x19 x20 x21 x22 x23 → J x0 x1 x2 x3 x4 x5 x6 x7 x8 x9 x10 x11 x12 x13 x14 x15 x16 x17 x18 x19 x20 x21 x22 x23) (h : B S) : jn24 J B := ⟨S, hS, h⟩
theorem nlp24_i {A0 A1 A2 A3 A4 A5 A6 A7 A8 A9 A10 A11 A12 A13 A14 A15 A16 A17 A18 A19 A20 A21 A22 A23 : Type} {F : (A0 → A1 → A2 → A3 → A4 → A5 → A6 → A7 → A8 → A9 → A10 → A11 → A12 → A13 → A14 → A15 → A16 → A17 → A18 → A19 → A20 → A21 → A22 → A23 → Prop) → (A0 → A1 → A2 → A3 → A4 → A5 → A6 → A7 → A8 → A9 → A10 → A11 → A12 → A13 → A14 → A15 → A16 → A17 → A18 → A19 → A20 → A21 → A22 → A23 → Prop)} (Inv : A0 → A1 → A2 → A3 → A4 → A5 → A6 → A7 → A8 → A9 → A10 → A11 → A12 → A13 → A14 → A15 → A16 → A17 → A18 → A19 → A20 → A21 → A22 → A23 → Prop) (ms : A0 → A1 → A2 → A3 → A4 → A5 → A6 → A7 → A8 → A9 → A10 → A11 → A12 → A13 → A14 → A15 → A16 → A17 → A18 → A19 → A20 → A21 → A22 → A23 → Nat) (st : ∀ x0 x1 x2 x3 x4 x5 x6 x7 x8 x9 x10 x11 x12 x13 x14 x15 x16 x17 x18 x19 x20 x21 x22 x23, Inv x0 x1 x2 x3 x4 x5 x6 x7 x8 x9 x10 x11 x12 x13 x14 x15 x16 x17 x18 x19 x20 x21 x22 x23 → ∀ self : A0 → A1 → A2 → A3 → A4 → A5 → A6 → A7 → A8 → A9 → A10 → A11 → A12 → A13 → A14 → A15 → A16 → A17 → A18 → A19 → A20 → A21 → A22 → A23 → Prop, (∀ y0 y1 y2 y3 y4 y5 y6 y7 y8 y9 y10 y11 y12 y13 y14 y15 y16 y17 y18 y19 y20 y21 y22 y23, Inv y0 y1 y2 y3 y4 y5 y6 y7 y8 y9 y10 y11 y12 y13 y14 y15 y16 y17 y18 y19 y20 y21 y22 y23 → ms y0 y1 y2 y3 y4 y5 y6 y7 y8 y9 y10 y11 y12 y13 y14 y15 y16 y17 y18 y19 y20 y21 y22 y23 < ms x0 x1 x2 x3 x4 x5 x6 x7 x8 x9 x10 x11 x12 x13 x14 x15 x16 x17 x18 x19 x20 x21 x22 x23 → self y0 y1 y2 y3 y4 y5 y6 y7 y8 y9 y10 y11 y12 y13 y14 y15 y16 y17 y18 y19 y20 y21 y22 y23) → F self x0 x1 x2 x3 x4 x5 x6 x7 x8 x9 x10 x11 x12 x13 x14 x15 x16 x17 x18 x19 x20 x21 x22 x23) {x0 : A0} {x1 : A1} {x2 : A2} {x3 : A3} {x4 : A4} {x5 : A5} {x6 : A6} {x7 : A7} {x8 : A8} {x9 : A9} {x10 : A10} {x11 : A11} {x12 : A12} {x13 : A13} {x14 : A14} {x15 : A15} {x16 : A16} {x17 : A17} {x18 : A18} {x19 : A19} {x20 : A20} {x21 : A21} {x22 : A22} {x23 : A23} (h0 : Inv x0 x1 x2 x3 x4 x5 x6 x7 x8 x9 x10 x11 x12 x13 x14 x15 x16 x17 x18 x19 x20 x21 x22 x23) : nlp24 F x0 x1 x2 x3 x4 x5 x6 x7 x8 x9 x10 x11 x12 x13 x14 x15 x16 x17 x18 x19 x20 x21 x22 x23 := by
  intro P hP
  have key : ∀ n : Nat, ∀ x0 x1 x2 x3 x4 x5 x6 x7 x8 x9 x10 x11 x12 x13 x14 x15 x16 x17 x18 x19 x20 x21 x22 x23, ms x0 x1 x2 x3 x4 x5 x6 x7 x8 x9 x10 x11 x12 x13 x14 x15 x16 x17 x18 x19 x20 x21 x22 x23 < n → Inv x0 x1 x2 x3 x4 x5 x6 x7 x8 x9 x10 x11 x12 x13 x14 x15 x16 x17 x18 x19 x20 x21 x22 x23 → P x0 x1 x2 x3 x4 x5 x6 x7 x8 x9 x10 x11 x12 x13 x14 x15 x16 x17 x18 x19 x20 x21 x22 x23 := by
    intro n
    induction n with
    | zero =>
      intro x0 x1 x2 x3 x4 x5 x6 x7 x8 x9 x10 x11 x12 x13 x14 x15 x16 x17 x18 x19 x20 x21 x22 x23 hm _
      exact absurd hm (Nat.not_lt_zero _)
    | succ n ih =>
      intro x0 x1 x2 x3 x4 x5 x6 x7 x8 x9 x10 x11 x12 x13 x14 x15 x16 x17 x18 x19 x20 x21 x22 x23 hm hi
      exact hP _ _ _ _ _ _ _ _ _ _ _ _ _ _ _ _ _ _ _ _ _ _ _ _ (st _ _ _ _ _ _ _ _ _ _ _ _ _ _ _ _ _ _ _ _ _ _ _ _ hi P (fun y0 y1 y2 y3 y4 y5 y6 y7 y8 y9 y10 y11 y12 y13 y14 y15 y16 y17 y18 y19 y20 y21 y22 y23 hy hlt => ih _ _ _ _ _ _ _ _ _ _ _ _ _ _ _ _ _ _ _ _ _ _ _ _ (by omega) hy))
  exact key _ _ _ _ _ _ _ _ _ _ _ _ _ _ _ _ _ _ _ _ _ _ _ _ _ (Nat.lt_succ_self _) h0
theorem ci_m1 : ci (-1) = (-1) := by decide +kernel
theorem ci_m10 : ci (-10) = (-10) := by decide +kernel
theorem ci_m1001 : ci (-1001) = (-1001) := by decide +kernel
theorem ci_m1002 : ci (-1002) = (-1002) := by decide +kernel
theorem ci_m1003 : ci (-1003) = (-1003) := by decide +kernel
theorem ci_m1004 : ci (-1004) = (-1004) := by decide +kernel
theorem ci_0 : ci 0 = 0 := by decide +kernel
theorem ci_1 : ci 1 = 1 := by decide +kernel
theorem ci_10 : ci 10 = 10 := by decide +kernel
theorem ci_100 : ci 100 = 100 := by decide +kernel
theorem ci_1000 : ci 1000 = 1000 := by decide +kernel
theorem ci_10000 : ci 10000 = 10000 := by decide +kernel
theorem ci_101 : ci 101 = 101 := by decide +kernel
theorem ci_103 : ci 103 = 103 := by decide +kernel
theorem ci_104 : ci 104 = 104 := by decide +kernel
theorem ci_105 : ci 105 = 105 := by decide +kernel
theorem ci_107 : ci 107 = 107 := by decide +kernel
theorem ci_108 : ci 108 = 108 := by decide +kernel
theorem ci_110 : ci 110 = 110 := by decide +kernel
theorem ci_111 : ci 111 = 111 := by decide +kernel
theorem ci_114 : ci 114 = 114 := by decide +kernel
theorem ci_115 : ci 115 = 115 := by decide +kernel
theorem ci_116 : ci 116 = 116 := by decide +kernel
theorem ci_118 : ci 118 = 118 := by decide +kernel
theorem ci_119 : ci 119 = 119 := by decide +kernel
theorem ci_12 : ci 12 = 12 := by decide +kernel
theorem ci_122 : ci 122 = 122 := by decide +kernel
theorem ci_1431655765 : ci 1431655765 = 1431655765 := by decide +kernel
theorem ci_15 : ci 15 = 15 := by decide +kernel
theorem ci_16 : ci 16 = 16 := by decide +kernel
theorem ci_2 : ci 2 = 2 := by decide +kernel
theorem ci_20 : ci 20 = 20 := by decide +kernel
theorem ci_23 : ci 23 = 23 := by decide +kernel
theorem ci_24 : ci 24 = 24 := by decide +kernel
theorem ci_240 : ci 240 = 240 := by decide +kernel
theorem ci_252645135 : ci 252645135 = 252645135 := by decide +kernel
theorem ci_255 : ci 255 = 255 := by decide +kernel
theorem ci_256 : ci 256 = 256 := by decide +kernel
theorem ci_3 : ci 3 = 3 := by decide +kernel
theorem ci_32 : ci 32 = 32 := by decide +kernel
theorem ci_4 : ci 4 = 4 := by decide +kernel
theorem ci_420 : ci 420 = 420 := by decide +kernel
theorem ci_48 : ci 48 = 48 := by decide +kernel
theorem ci_5 : ci 5 = 5 := by decide +kernel
theorem ci_5040 : ci 5040 = 5040 := by decide +kernel
theorem ci_57 : ci 57 = 57 := by decide +kernel
theorem ci_59 : ci 59 = 59 := by decide +kernel
theorem ci_6 : ci 6 = 6 := by decide +kernel
theorem ci_60 : ci 60 = 60 := by decide +kernel
theorem ci_63 : ci 63 = 63 := by decide +kernel
theorem ci_64 : ci 64 = 64 := by decide +kernel
theorem ci_7 : ci 7 = 7 := by decide +kernel
theorem ci_70 : ci 70 = 70 := by decide +kernel
theorem ci_8 : ci 8 = 8 := by decide +kernel
theorem ci_858993459 : ci 858993459 = 858993459 := by decide +kernel
theorem ci_9 : ci 9 = 9 := by decide +kernel
theorem ci_900 : ci 900 = 900 := by decide +kernel
theorem ci_97 : ci 97 = 97 := by decide +kernel
theorem ci_99 : ci 99 = 99 := by decide +kernel
theorem ci_999 : ci 999 = 999 := by decide +kernel
theorem ci_9999 : ci 9999 = 9999 := by decide +kernel
theorem cl_0 : cl 0 = 0 := by decide +kernel
theorem cl_1 : cl 1 = 1 := by decide +kernel
theorem cl_10 : cl 10 = 10 := by decide +kernel
theorem cl_1000000000000 : cl 1000000000000 = 1000000000000 := by decide +kernel
theorem cl_122 : cl 122 = 122 := by decide +kernel
theorem cl_2 : cl 2 = 2 := by decide +kernel
theorem cl_2000000000000 : cl 2000000000000 = 2000000000000 := by decide +kernel
theorem cl_23 : cl 23 = 23 := by decide +kernel
theorem cl_255 : cl 255 = 255 := by decide +kernel
theorem cl_27 : cl 27 = 27 := by decide +kernel
theorem cl_3 : cl 3 = 3 := by decide +kernel
theorem cl_4 : cl 4 = 4 := by decide +kernel
theorem cl_48 : cl 48 = 48 := by decide +kernel
theorem cl_57 : cl 57 = 57 := by decide +kernel
theorem cl_6 : cl 6 = 6 := by decide +kernel
theorem cl_8 : cl 8 = 8 := by decide +kernel
theorem cl_96 : cl 96 = 96 := by decide +kernel
theorem cl_97 : cl 97 = 97 := by decide +kernel
theorem cl_99 : cl 99 = 99 := by decide +kernel
theorem cl_999 : cl 999 = 999 := by decide +kernel
theorem cl_9999 : cl 9999 = 9999 := by decide +kernel
