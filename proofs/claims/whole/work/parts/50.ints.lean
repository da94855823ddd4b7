/-! ===== PURE 1: numbers, tests, guards ===== -/
theorem i_cl {n : Nat} (h : n < 2147483648) : (nI n).toNatClampNeg = n := nI_clamp (by omega)
theorem og_in {α : Type _} {a N : Nat} {k : Option α} (h : a < N) (hN : N < 2147483648) : og (vp_in (nI a) N) k = k := og_t (vp_in_nI h (by omega))
theorem ob_ltt {α : Sort _} {a b : Nat} {A B : α} (h : a < b) (hb : b < 2147483648) : ob (nI a < nI b) A B = A := ob_t (nI_lt h (by omega))
theorem ob_ltf {α : Sort _} {a b : Nat} {A B : α} (h : b ≤ a) (ha : a < 2147483648) : ob (nI a < nI b) A B = B := ob_f (nI_nlt h (by omega))
theorem ob_let {α : Sort _} {a b : Nat} {A B : α} (h : a ≤ b) (hb : b < 2147483648) : ob (nI a ≤ nI b) A B = A := ob_t (nI_le h (by omega))
theorem ob_lef {α : Sort _} {a b : Nat} {A B : α} (h : b < a) (ha : a < 2147483648) : ob (nI a ≤ nI b) A B = B := ob_f (nI_ge h (by omega))
theorem ob_eqt {α : Sort _} {a b : Nat} {A B : α} (h : a = b) : ob (nI a = nI b) A B = A := ob_t (by rw [h])
theorem ob_eqf {α : Sort _} {a b : Nat} {A B : α} (h : a ≠ b) (ha : a < 2147483648) (hb : b < 2147483648) : ob (nI a = nI b) A B = B := ob_f (fun q => h ((nI_eq (by omega) (by omega)).mp q))
theorem ob_rfl {α : Sort _} {x : Int32} {A B : α} : ob (x = x) A B = A := ob_t rfl
theorem ob_not {α : Sort _} {P : Prop} {A B : α} (h : ¬ P) : ob P A B = B := ob_f h
theorem nx_s {α β : Type _} {x : α} {k : α → Option β} : nx x k = k x := rfl
theorem i_add (a b : Nat) : nI a + nI b = nI (a + b) := nI_add a b
theorem i_sub {a b : Nat} (h : b ≤ a) : nI a - nI b = nI (a - b) := pk_sub h
theorem i_mul (a b : Nat) : nI a * nI b = nI (a * b) := pk_mul a b
theorem i_m1 {a : Nat} (h : 0 < a) : nI a + (-1 : Int32) = nI (a - 1) := by
  obtain ⟨b, rfl⟩ : ∃ b, a = b + 1 := ⟨a - 1, by omega⟩
  exact pk_m1 b
theorem i_m1' {a : Nat} (h : 0 < a) : nI a + -nI 1 = nI (a - 1) := i_m1 h
theorem i_lt {a b : Nat} (ha : a < 2147483648) (hb : b < 2147483648) : nI a < nI b ↔ a < b := nI_ltI (by omega) (by omega)
theorem i_le {a b : Nat} (ha : a < 2147483648) (hb : b < 2147483648) : nI a ≤ nI b ↔ a ≤ b := nI_leI (by omega) (by omega)
theorem i_eq {a b : Nat} (ha : a < 2147483648) (hb : b < 2147483648) : nI a = nI b ↔ a = b := nI_eq (by omega) (by omega)
theorem i_inj {a b : Nat} (ha : a < 2147483648) (hb : b < 2147483648) (h : nI a = nI b) : a = b := (i_eq ha hb).mp h
/-- literals as nI -/
theorem k0 : (0 : Int32) = nI 0 := rfl
theorem kk1 : (1 : Int32) = nI 1 := rfl
theorem k1 : (1 : Int32) = nI 1 := rfl
theorem k2 : (2 : Int32) = nI 2 := rfl
theorem k3 : (3 : Int32) = nI 3 := rfl
theorem k4 : (4 : Int32) = nI 4 := rfl
theorem k5 : (5 : Int32) = nI 5 := rfl
theorem k6 : (6 : Int32) = nI 6 := rfl
theorem k7 : (7 : Int32) = nI 7 := rfl
theorem k8 : (8 : Int32) = nI 8 := rfl
theorem k16 : (16 : Int32) = nI 16 := rfl
theorem k24 : (24 : Int32) = nI 24 := rfl
theorem k32 : (32 : Int32) = nI 32 := rfl
theorem k40 : (40 : Int32) = nI 40 := rfl
theorem k56 : (56 : Int32) = nI 56 := rfl
theorem k57 : (57 : Int32) = nI 57 := rfl
theorem k58 : (58 : Int32) = nI 58 := rfl
theorem k59 : (59 : Int32) = nI 59 := rfl
theorem k60 : (60 : Int32) = nI 60 := rfl
theorem k61 : (61 : Int32) = nI 61 := rfl
theorem k62 : (62 : Int32) = nI 62 := rfl
theorem k63 : (63 : Int32) = nI 63 := rfl
theorem k64 : (64 : Int32) = nI 64 := rfl
theorem k65 : (65 : Int32) = nI 65 := rfl
theorem k66 : (66 : Int32) = nI 66 := rfl
theorem k67 : (67 : Int32) = nI 67 := rfl
theorem k80 : (80 : Int32) = nI 80 := rfl
theorem k150 : (150 : Int32) = nI 150 := rfl
theorem k300 : (300 : Int32) = nI 300 := rfl
theorem k999 : (999 : Int32) = nI 999 := rfl
theorem k2400 : (2400 : Int32) = nI 2400 := rfl
/-- an argument: below 0, or a number -/
theorem i_cases (x : Int32) : x < 0 ∨ ∃ j : Nat, j < 2147483648 ∧ x = nI j := by
  by_cases h : x < 0
  · exact Or.inl h
  · obtain ⟨j, h1, h2⟩ := nI_of h
    exact Or.inr ⟨j, by omega, h2⟩
theorem i_neg_lt {x : Int32} (h : x < 0) {n : Nat} (hn : n < 2147483648) : x < nI n := by
  rw [Int32.lt_iff_toInt_lt] at h ⊢
  rw [nI_toInt (by omega)]
  simp at h
  omega
theorem i_neg_nle {x : Int32} (h : x < 0) {n : Nat} (hn : n < 2147483648) : ¬ nI n ≤ x := by
  rw [Int32.lt_iff_toInt_lt] at h
  rw [Int32.le_iff_toInt_le, nI_toInt (by omega)]
  simp at h
  omega
theorem i_neg_ne {x : Int32} (h : x < 0) {n : Nat} (hn : n < 2147483648) : ¬ x = nI n := by
  intro e
  have := i_neg_lt h hn
  rw [e, i_lt hn hn] at this
  omega
theorem i_neg_in {x : Int32} (h : x < 0) {n : Nat} : ¬ vp_in x n := fun q => q (Or.inl h)
theorem i_max (a b : Nat) (ha : a < 2147483648) (hb : b < 2147483648) : (if nI a < nI b then nI b else nI a) = nI (max a b) := by
  by_cases h : a < b
  · rw [if_pos (nI_lt h (by omega)), Nat.max_eq_right (by omega)]
  · rw [if_neg (nI_nlt (by omega) (by omega)), Nat.max_eq_left (by omega)]
theorem i_min (a b : Nat) (ha : a < 2147483648) (hb : b < 2147483648) : (if nI b < nI a then nI b else nI a) = nI (min a b) := by
  by_cases h : b < a
  · rw [if_pos (nI_lt h (by omega)), Nat.min_eq_right (by omega)]
  · rw [if_neg (nI_nlt (by omega) (by omega)), Nat.min_eq_left (by omega)]
theorem up_s (f : Nat → Int32) (k : Nat) (x : Int32) : upd f k x k = x := by simp [upd]
theorem up_n (f : Nat → Int32) {k j : Nat} (x : Int32) (h : j ≠ k) : upd f k x j = f j := by simp [upd, h]
/-! the log: entries 1 .. n, each of seven numbers: kind, work, earlier, page, before, then, next -/
abbrev E7 : Type := Int32 × Int32 × Int32 × Int32 × Int32 × Int32 × Int32
def lst (L : Nat → E7) (x : Int32) : Nat → Nat
  | 0 => 0
  | n + 1 => if (L (n + 1)).2.1 = x then n + 1 else lst L x n
def nwk (L : Nat → E7) : Nat → Nat
  | 0 => 0
  | n + 1 => if (L (n + 1)).1 = 0 then nwk L n + 1 else nwk L n
def cnt (L : Nat → E7) (x : Int32) : Nat → Nat
  | 0 => 0
  | n + 1 => if (L (n + 1)).2.1 = x then cnt L x n + 1 else cnt L x n
def wrc (L : Nat → E7) (x : Int32) : Nat → Nat
  | 0 => 0
  | n + 1 => if (L (n + 1)).2.1 = x ∧ (L (n + 1)).1 = 1 then wrc L x n + 1 else wrc L x n
def pgs (L : Nat → E7) (x : Int32) : Nat → Int32
  | 0 => 0
  | n + 1 => if (L (n + 1)).2.1 = x ∧ (L (n + 1)).1 = 1 then pgs L x n ||| ((1 : Int32) <<< ((L (n + 1)).2.2.2.1 &&& 31)) else pgs L x n
def gon (L : Nat → E7) (x : Int32) (n : Nat) : Nat := if (L (lst L x n)).1 = 2 then (L (lst L x n)).2.2.2.2.2.2.toNatClampNeg else lst L x n
def opn (L : Nat → E7) (x : Int32) (n : Nat) : Prop := 1 ≤ lst L x n ∧ ¬ (L (lst L x n)).1 = 3 ∧ ¬ (L (lst L x n)).1 = 4
def nob (L : Nat → E7) (x : Int32) (n : Nat) : Prop := (L (lst L x n)).1 = 0 ∨ (L (lst L x n)).1 = 1
def wrote (L : Nat → E7) (x y : Int32) (n : Nat) : Prop := ∃ i, 1 ≤ i ∧ i ≤ n ∧ (L i).2.1 = x ∧ (L i).1 = 1 ∧ (L i).2.2.2.1 = y
/-- an entry that may stand behind the first n -/
def vent (L : Nat → E7) (n : Nat) (e : E7) : Prop :=
  e.2.2.1 = nI (lst L e.2.1 n) ∧
  ((e.1 = 0 ∧ e.2.1 = nI (nwk L n) ∧ nwk L n < 16 ∧ n < 150 ∧ e.2.2.2.1 = -6 ∧ e.2.2.2.2.1 = -6 ∧ e.2.2.2.2.2.1 = -6 ∧ e.2.2.2.2.2.2 = -6) ∨
   (e.1 = 1 ∧ opn L e.2.1 n ∧ nob L e.2.1 n ∧ n < 150 ∧ (∃ p : Nat, p < 8 ∧ e.2.2.2.1 = nI p) ∧ 0 ≤ e.2.2.2.2.1 ∧ 0 ≤ e.2.2.2.2.2.1 ∧ e.2.2.2.2.2.2 = -6 ∧ ∀ x : Int32, x ≠ e.2.1 → opn L x n → ¬ wrote L x e.2.2.2.1 n) ∨
   (e.1 = 2 ∧ opn L e.2.1 n ∧ (L (gon L e.2.1 n)).1 = 1 ∧ e.2.2.2.1 = (L (gon L e.2.1 n)).2.2.2.1 ∧ e.2.2.2.2.1 = -6 ∧ e.2.2.2.2.2.1 = (L (gon L e.2.1 n)).2.2.2.2.1 ∧ e.2.2.2.2.2.2 = (L (gon L e.2.1 n)).2.2.1) ∨
   (e.1 = 3 ∧ opn L e.2.1 n ∧ nob L e.2.1 n ∧ n < 150 ∧ e.2.2.2.1 = -6 ∧ e.2.2.2.2.1 = -6 ∧ e.2.2.2.2.2.1 = -6 ∧ e.2.2.2.2.2.2 = -6) ∨
   (e.1 = 4 ∧ opn L e.2.1 n ∧ (L (gon L e.2.1 n)).1 = 0 ∧ e.2.2.2.1 = -6 ∧ e.2.2.2.2.1 = -6 ∧ e.2.2.2.2.2.1 = -6 ∧ e.2.2.2.2.2.2 = -6))
def VL (L : Nat → E7) : Nat → Prop
  | 0 => True
  | n + 1 => VL L n ∧ vent L n (L (n + 1))
theorem lst_le (L : Nat → E7) (x : Int32) : ∀ n, lst L x n ≤ n
  | 0 => Nat.le_refl _
  | n + 1 => by
    unfold lst
    split
    · exact Nat.le_refl _
    · exact Nat.le_succ_of_le (lst_le L x n)
theorem lst_of (L : Nat → E7) (x : Int32) : ∀ n, 1 ≤ lst L x n → (L (lst L x n)).2.1 = x
  | 0, h => by simp [lst] at h
  | n + 1, h => by
    unfold lst at h ⊢
    split
    · assumption
    · rename_i g
      rw [if_neg g] at h
      exact lst_of L x n h
theorem lst_max (L : Nat → E7) (x : Int32) : ∀ n i, lst L x n < i → i ≤ n → (L i).2.1 ≠ x
  | 0, i, h1, h2 => by omega
  | n + 1, i, h1, h2 => by
    unfold lst at h1
    split at h1
    · omega
    · rename_i g
      by_cases e : i = n + 1
      · rw [e]; exact g
      · exact lst_max L x n i h1 (by omega)
theorem lst_ge (L : Nat → E7) (x : Int32) {n i : Nat} (h1 : 1 ≤ i) (h2 : i ≤ n) (h : (L i).2.1 = x) : i ≤ lst L x n := by
  apply Nat.le_of_not_lt
  intro q
  exact lst_max L x n i q h2 h
theorem VL_le {L : Nat → E7} {n m : Nat} (h : VL L n) (hm : m ≤ n) : VL L m := by
  induction n with
  | zero => have : m = 0 := by omega
            subst this; exact h
  | succ n ih =>
    by_cases e : m = n + 1
    · subst e; exact h
    · exact ih h.1 (by omega)
theorem VL_at {L : Nat → E7} {n i : Nat} (h : VL L n) (h1 : 1 ≤ i) (h2 : i ≤ n) : vent L (i - 1) (L i) := by
  have h3 := VL_le h h2
  obtain ⟨j, rfl⟩ : ∃ j, i = j + 1 := ⟨i - 1, by omega⟩
  exact h3.2
/-- the words of a log are told by its first n entries -/
theorem lst_cg {L L' : Nat → E7} (x : Int32) : ∀ n, (∀ i, 1 ≤ i → i ≤ n → L i = L' i) → lst L x n = lst L' x n
  | 0, _ => rfl
  | n + 1, h => by
    unfold lst
    rw [h (n + 1) (by omega) (by omega), lst_cg x n (fun i a b => h i a (by omega))]
theorem nwk_cg {L L' : Nat → E7} : ∀ n, (∀ i, 1 ≤ i → i ≤ n → L i = L' i) → nwk L n = nwk L' n
  | 0, _ => rfl
  | n + 1, h => by
    unfold nwk
    rw [h (n + 1) (by omega) (by omega), nwk_cg n (fun i a b => h i a (by omega))]
theorem cnt_cg {L L' : Nat → E7} (x : Int32) : ∀ n, (∀ i, 1 ≤ i → i ≤ n → L i = L' i) → cnt L x n = cnt L' x n
  | 0, _ => rfl
  | n + 1, h => by
    unfold cnt
    rw [h (n + 1) (by omega) (by omega), cnt_cg x n (fun i a b => h i a (by omega))]
theorem wrc_cg {L L' : Nat → E7} (x : Int32) : ∀ n, (∀ i, 1 ≤ i → i ≤ n → L i = L' i) → wrc L x n = wrc L' x n
  | 0, _ => rfl
  | n + 1, h => by
    unfold wrc
    rw [h (n + 1) (by omega) (by omega), wrc_cg x n (fun i a b => h i a (by omega))]
theorem pgs_cg {L L' : Nat → E7} (x : Int32) : ∀ n, (∀ i, 1 ≤ i → i ≤ n → L i = L' i) → pgs L x n = pgs L' x n
  | 0, _ => rfl
  | n + 1, h => by
    unfold pgs
    rw [h (n + 1) (by omega) (by omega), pgs_cg x n (fun i a b => h i a (by omega))]
