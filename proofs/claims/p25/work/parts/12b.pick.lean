/-! lists picked and merged in one pass (in place of one lookup per entry) -/
def pk_m {α : Type} : List Bool → List α → List α
  | [], _ => []
  | _ :: _, [] => []
  | true :: m, a :: l => a :: pk_m m l
  | false :: m, _ :: l => pk_m m l
def pk_i : Nat → List Bool → List Nat
  | _, [] => []
  | k, true :: m => k :: pk_i (k + 1) m
  | k, false :: m => pk_i (k + 1) m
theorem pk_a {α : Type} : ∀ (m : List Bool) (ws pre : List α), m.length = ws.length → (pk_i pre.length m).map (fun i => (pre ++ ws)[i]?) = (pk_m m ws).map some
  | [], _, _, _ => rfl
  | _ :: _, [], _, h => by cases h
  | true :: m, a :: l, pre, h => by
    have ih := pk_a m l (pre ++ [a]) (Nat.succ.inj h)
    have h2 : (pre ++ [a]).length = pre.length + 1 := by simp
    have h3 : pre ++ [a] ++ l = pre ++ a :: l := by simp
    rw [h2, h3] at ih
    have e : (pre ++ a :: l)[pre.length]? = some a := by
      rw [List.getElem?_append_right (Nat.le_refl _), Nat.sub_self]
      rfl
    show (pre ++ a :: l)[pre.length]? :: (pk_i (pre.length + 1) m).map (fun i => (pre ++ a :: l)[i]?) = some a :: (pk_m m l).map some
    rw [e, ih]
  | false :: m, a :: l, pre, h => by
    have ih := pk_a m l (pre ++ [a]) (Nat.succ.inj h)
    have h2 : (pre ++ [a]).length = pre.length + 1 := by simp
    have h3 : pre ++ [a] ++ l = pre ++ a :: l := by simp
    rw [h2, h3] at ih
    exact ih
theorem pk_R {α : Type} {ws wr : List α} {is : List Nat} (m : List Bool) (h1 : pk_i 0 m = is) (h2 : pk_m m ws = wr) (h3 : m.length = ws.length) : is.map (fun i => ws[i]?) = wr.map some := by
  have h := pk_a m ws [] h3
  subst h1 h2
  exact h
def mg_l {α : Type} : List (Option Nat) → List α → List α → List (Option α)
  | [], _, _ => []
  | none :: s, a :: r, w => some a :: mg_l s r w
  | none :: s, [], w => none :: mg_l s [] w
  | some k :: s, r, w => w[k]? :: mg_l s r w
def mg_i (n : Nat) : Nat → List (Option Nat) → List Nat
  | _, [] => []
  | j, none :: s => j :: mg_i n (j + 1) s
  | j, some k :: s => (n + k) :: mg_i n j s
def mg_k : List (Option Nat) → Nat
  | [] => 0
  | none :: s => mg_k s + 1
  | some _ :: s => mg_k s
theorem mg_a {α : Type} : ∀ (s : List (Option Nat)) (pre r w : List α), mg_k s ≤ r.length → (mg_i (pre.length + r.length) pre.length s).map (fun i => (pre ++ r ++ w)[i]?) = mg_l s r w
  | [], _, _, _, _ => rfl
  | some k :: s, pre, r, w, h => by
    have ih := mg_a s pre r w h
    have e : (pre ++ r ++ w)[pre.length + r.length + k]? = w[k]? := by
      rw [List.getElem?_append_right (by rw [List.length_append]; omega), List.length_append, Nat.add_sub_cancel_left]
    show (pre ++ r ++ w)[pre.length + r.length + k]? :: (mg_i (pre.length + r.length) pre.length s).map (fun i => (pre ++ r ++ w)[i]?) = w[k]? :: mg_l s r w
    rw [e, ih]
  | none :: s, pre, [], w, h => absurd (show mg_k s + 1 ≤ 0 from h) (by omega)
  | none :: s, pre, a :: r, w, h => by
    have ih := mg_a s (pre ++ [a]) r w (Nat.le_of_succ_le_succ h)
    have h2 : (pre ++ [a]).length = pre.length + 1 := by simp
    have h3 : pre ++ [a] ++ r = pre ++ a :: r := by simp
    have h4 : pre.length + 1 + r.length = pre.length + (a :: r).length := by
      rw [List.length_cons]
      omega
    rw [h2, h3, h4] at ih
    have e : (pre ++ a :: r ++ w)[pre.length]? = some a := by
      rw [List.append_assoc, List.getElem?_append_right (Nat.le_refl _), Nat.sub_self]
      rfl
    show (pre ++ a :: r ++ w)[pre.length]? :: (mg_i (pre.length + (a :: r).length) (pre.length + 1) s).map (fun i => (pre ++ a :: r ++ w)[i]?) = some a :: mg_l s r w
    rw [e, ih]
theorem mg_N {α : Type} {r w w' : List α} {is : List Nat} (s : List (Option Nat)) (n : Nat) (h1 : mg_i n 0 s = is) (h2 : mg_k s ≤ n) (h3 : r.length = n) (h4 : mg_l s r w = w'.map some) : is.map (fun i => (r ++ w)[i]?) = w'.map some := by
  have h := mg_a s [] r w (by omega)
  have e : ([] : List α).length + r.length = n := by
    rw [h3]
    simp
  rw [e] at h
  subst h1
  rw [← h4]
  exact h
