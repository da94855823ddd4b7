/-! ===== PURE 2: what a valid log has ===== -/
theorem vent_k {L : Nat → E7} {n : Nat} {e : E7} (h : vent L n e) : e.1 = 0 ∨ e.1 = 1 ∨ e.1 = 2 ∨ e.1 = 3 ∨ e.1 = 4 := by
  rcases h.2 with h | h | h | h | h
  · exact Or.inl h.1
  · exact Or.inr (Or.inl h.1)
  · exact Or.inr (Or.inr (Or.inl h.1))
  · exact Or.inr (Or.inr (Or.inr (Or.inl h.1)))
  · exact Or.inr (Or.inr (Or.inr (Or.inr h.1)))
theorem d01 : ¬ (0 : Int32) = 1 := by decide
theorem d02 : ¬ (0 : Int32) = 2 := by decide
theorem d03 : ¬ (0 : Int32) = 3 := by decide
theorem d04 : ¬ (0 : Int32) = 4 := by decide
theorem d12 : ¬ (1 : Int32) = 2 := by decide
theorem d13 : ¬ (1 : Int32) = 3 := by decide
theorem d14 : ¬ (1 : Int32) = 4 := by decide
theorem d23 : ¬ (2 : Int32) = 3 := by decide
theorem d24 : ¬ (2 : Int32) = 4 := by decide
theorem d34 : ¬ (3 : Int32) = 4 := by decide
theorem d10 : ¬ (1 : Int32) = 0 := by decide
theorem d20 : ¬ (2 : Int32) = 0 := by decide
theorem d21 : ¬ (2 : Int32) = 1 := by decide
theorem d30 : ¬ (3 : Int32) = 0 := by decide
theorem d31 : ¬ (3 : Int32) = 1 := by decide
theorem d32 : ¬ (3 : Int32) = 2 := by decide
theorem d40 : ¬ (4 : Int32) = 0 := by decide
theorem d41 : ¬ (4 : Int32) = 1 := by decide
theorem d42 : ¬ (4 : Int32) = 2 := by decide
theorem d43 : ¬ (4 : Int32) = 3 := by decide
theorem vent_0 {L : Nat → E7} {n : Nat} {e : E7} (h : vent L n e) (k : e.1 = 0) : e.2.1 = nI (nwk L n) ∧ nwk L n < 16 ∧ n < 150 := by
  rcases h.2 with h | h | h | h | h
  · exact ⟨h.2.1, h.2.2.1, h.2.2.2.1⟩
  · exact absurd (k.symm.trans h.1) d01
  · exact absurd (k.symm.trans h.1) d02
  · exact absurd (k.symm.trans h.1) d03
  · exact absurd (k.symm.trans h.1) d04
theorem vent_1 {L : Nat → E7} {n : Nat} {e : E7} (h : vent L n e) (k : e.1 = 1) : opn L e.2.1 n ∧ nob L e.2.1 n ∧ n < 150 ∧ (∃ p : Nat, p < 8 ∧ e.2.2.2.1 = nI p) ∧ 0 ≤ e.2.2.2.2.1 ∧ 0 ≤ e.2.2.2.2.2.1 ∧ e.2.2.2.2.2.2 = -6 ∧ ∀ x : Int32, x ≠ e.2.1 → opn L x n → ¬ wrote L x e.2.2.2.1 n := by
  rcases h.2 with h | h | h | h | h
  · exact absurd (k.symm.trans h.1) d10
  · exact h.2
  · exact absurd (k.symm.trans h.1) d12
  · exact absurd (k.symm.trans h.1) d13
  · exact absurd (k.symm.trans h.1) d14
theorem vent_2 {L : Nat → E7} {n : Nat} {e : E7} (h : vent L n e) (k : e.1 = 2) : opn L e.2.1 n ∧ (L (gon L e.2.1 n)).1 = 1 ∧ e.2.2.2.1 = (L (gon L e.2.1 n)).2.2.2.1 ∧ e.2.2.2.2.1 = -6 ∧ e.2.2.2.2.2.1 = (L (gon L e.2.1 n)).2.2.2.2.1 ∧ e.2.2.2.2.2.2 = (L (gon L e.2.1 n)).2.2.1 := by
  rcases h.2 with h | h | h | h | h
  · exact absurd (k.symm.trans h.1) d20
  · exact absurd (k.symm.trans h.1) d21
  · exact h.2
  · exact absurd (k.symm.trans h.1) d23
  · exact absurd (k.symm.trans h.1) d24
theorem vent_3 {L : Nat → E7} {n : Nat} {e : E7} (h : vent L n e) (k : e.1 = 3) : opn L e.2.1 n ∧ nob L e.2.1 n ∧ n < 150 := by
  rcases h.2 with h | h | h | h | h
  · exact absurd (k.symm.trans h.1) d30
  · exact absurd (k.symm.trans h.1) d31
  · exact absurd (k.symm.trans h.1) d32
  · exact ⟨h.2.1, h.2.2.1, h.2.2.2.1⟩
  · exact absurd (k.symm.trans h.1) d34
theorem vent_4 {L : Nat → E7} {n : Nat} {e : E7} (h : vent L n e) (k : e.1 = 4) : opn L e.2.1 n ∧ (L (gon L e.2.1 n)).1 = 0 := by
  rcases h.2 with h | h | h | h | h
  · exact absurd (k.symm.trans h.1) d40
  · exact absurd (k.symm.trans h.1) d41
  · exact absurd (k.symm.trans h.1) d42
  · exact absurd (k.symm.trans h.1) d43
  · exact ⟨h.2.1, h.2.2.1⟩
theorem vent_o {L : Nat → E7} {n : Nat} {e : E7} (h : vent L n e) (k : ¬ e.1 = 0) : opn L e.2.1 n := by
  rcases vent_k h with q | q | q | q | q
  · exact absurd q k
  · exact (vent_1 h q).1
  · exact (vent_2 h q).1
  · exact (vent_3 h q).1
  · exact (vent_4 h q).1
theorem nwk_le (L : Nat → E7) : ∀ n, nwk L n ≤ n
  | 0 => Nat.le_refl _
  | n + 1 => by
    unfold nwk
    have := nwk_le L n
    split <;> omega
theorem nwk_mono (L : Nat → E7) {m n : Nat} (h : m ≤ n) : nwk L m ≤ nwk L n := by
  induction n with
  | zero => have : m = 0 := by omega
            subst this; exact Nat.le_refl _
  | succ n ih =>
    by_cases e : m = n + 1
    · subst e; exact Nat.le_refl _
    · refine Nat.le_trans (ih (by omega)) ?_
      show nwk L n ≤ if (L (n + 1)).1 = 0 then nwk L n + 1 else nwk L n
      split <;> omega
theorem nwk_16 {L : Nat → E7} : ∀ n, VL L n → nwk L n ≤ 16
  | 0, _ => Nat.zero_le _
  | n + 1, h => by
    unfold nwk
    have := nwk_16 n h.1
    split
    · rename_i k
      have := (vent_0 h.2 k).2.1
      omega
    · exact this
theorem wk_of {L : Nat → E7} : ∀ n, VL L n → ∀ i, 1 ≤ i → i ≤ n → ∃ w, w < nwk L n ∧ (L i).2.1 = nI w
  | 0, _, i, h1, h2 => by omega
  | n + 1, h, i, h1, h2 => by
    have hm : nwk L n ≤ nwk L (n + 1) := nwk_mono L (by omega)
    by_cases e : i = n + 1
    · subst e
      by_cases k : (L (n + 1)).1 = 0
      · refine ⟨nwk L n, ?_, (vent_0 h.2 k).1⟩
        have e2 : nwk L (n + 1) = nwk L n + 1 := if_pos k
        omega
      · have ho := vent_o h.2 k
        obtain ⟨w, h3, h4⟩ := wk_of n h.1 _ ho.1 (lst_le L _ n)
        rw [lst_of L _ n ho.1] at h4
        exact ⟨w, by omega, h4⟩
    · obtain ⟨w, h3, h4⟩ := wk_of n h.1 i h1 (by omega)
      exact ⟨w, by omega, h4⟩
theorem wk_has {L : Nat → E7} : ∀ n, VL L n → ∀ w, w < nwk L n → 1 ≤ lst L (nI w) n
  | 0, _, w, hw => by simp [nwk] at hw
  | n + 1, h, w, hw => by
    unfold lst
    split
    · omega
    · rename_i g
      unfold nwk at hw
      split at hw
      · rename_i k
        by_cases e : w = nwk L n
        · exact absurd (by rw [(vent_0 h.2 k).1, e]) g
        · exact wk_has n h.1 w (by omega)
      · exact wk_has n h.1 w hw
theorem wk_lt {L : Nat → E7} {n : Nat} (h : VL L n) {x : Int32} (h1 : 1 ≤ lst L x n) : ∃ w, w < nwk L n ∧ x = nI w := by
  obtain ⟨w, h3, h4⟩ := wk_of n h _ h1 (lst_le L x n)
  rw [lst_of L x n h1] at h4
  exact ⟨w, h3, h4⟩
theorem wk_new {L : Nat → E7} {n : Nat} (h : VL L n) : lst L (nI (nwk L n)) n = 0 := by
  apply Nat.eq_zero_of_not_pos
  intro q
  obtain ⟨w, h3, h4⟩ := wk_lt h q
  have h16 := nwk_16 n h
  have := i_inj (by omega) (by omega) h4
  omega
theorem opn_lt {L : Nat → E7} {n : Nat} (h : VL L n) {x : Int32} (ho : opn L x n) : ∃ w, w < nwk L n ∧ x = nI w := wk_lt h ho.1
/-- the entry to go on with, in an open work -/
theorem gon_ok {L : Nat → E7} : ∀ n, VL L n → ∀ x, opn L x n → 1 ≤ gon L x n ∧ gon L x n ≤ lst L x n ∧ (L (gon L x n)).2.1 = x ∧ ((L (gon L x n)).1 = 0 ∨ (L (gon L x n)).1 = 1) ∧ ((L (lst L x n)).1 = 2 → (L (lst L x n)).2.2.2.2.2.2 = nI (gon L x n)) := by
  intro n
  induction n using Nat.strongRecOn with
  | _ n ih =>
    intro h x ho
    have hle := lst_le L x n
    have hv := VL_at h ho.1 hle
    have hx := lst_of L x n ho.1
    unfold gon
    by_cases k2 : (L (lst L x n)).1 = 2
    · rw [if_pos k2]
      obtain ⟨g1, g2, -, -, -, g6⟩ := vent_2 hv k2
      rw [hx] at g1 g2 g6
      obtain ⟨m1, m2, m3, m4, -⟩ := ih (lst L x n - 1) (by have := ho.1; omega) (VL_le h (by omega)) x g1
      have hm := VL_at h m1 (by have := lst_le L x (lst L x n - 1); omega)
      obtain ⟨q1, q2, -⟩ := vent_1 hm g2
      rw [m3] at q1 q2
      have hge : lst L x (gon L x (lst L x n - 1) - 1) ≤ gon L x (lst L x n - 1) - 1 := lst_le _ _ _
      have hll : lst L x (lst L x n - 1) ≤ lst L x n - 1 := lst_le _ _ _
      have h300 : lst L x (gon L x (lst L x n - 1) - 1) < 2147483648 ∨ 2147483648 ≤ lst L x (gon L x (lst L x n - 1) - 1) := by omega
      have hb : gon L x (lst L x n - 1) - 1 < 150 := (vent_1 hm g2).2.2.1
      have e : (L (lst L x n)).2.2.2.2.2.2 = nI (lst L x (gon L x (lst L x n - 1) - 1)) := by rw [g6, hm.1, m3]
      rw [e, i_cl (by omega)]
      exact ⟨q1.1, by omega, lst_of L x _ q1.1, q2, fun _ => rfl⟩
    · rw [if_neg k2]
      refine ⟨ho.1, Nat.le_refl _, hx, ?_, fun q => absurd q k2⟩
      rcases vent_k hv with q | q | q | q | q
      · exact Or.inl q
      · exact Or.inr q
      · exact absurd q k2
      · exact absurd q ho.2.1
      · exact absurd q ho.2.2
/-- counts -/
def ga (L : Nat → E7) (x : Int32) : Nat → Nat
  | 0 => 0
  | n + 1 => if (L (n + 1)).2.1 = x ∧ ((L (n + 1)).1 = 0 ∨ (L (n + 1)).1 = 1) then ga L x n + 1 else ga L x n
def gb (L : Nat → E7) (x : Int32) : Nat → Nat
  | 0 => 0
  | n + 1 => if (L (n + 1)).2.1 = x ∧ ¬ ((L (n + 1)).1 = 0 ∨ (L (n + 1)).1 = 1) then gb L x n + 1 else gb L x n
def ta (L : Nat → E7) : Nat → Nat
  | 0 => 0
  | n + 1 => if (L (n + 1)).1 = 0 ∨ (L (n + 1)).1 = 1 then ta L n + 1 else ta L n
def tb (L : Nat → E7) : Nat → Nat
  | 0 => 0
  | n + 1 => if (L (n + 1)).1 = 0 ∨ (L (n + 1)).1 = 1 then tb L n else tb L n + 1
def sm (f : Nat → Nat) : Nat → Nat
  | 0 => 0
  | n + 1 => sm f n + f n
theorem sm_up (f g : Nat → Nat) (w : Nat) : ∀ N, (∀ v, v < N → v ≠ w → g v = f v) → g w = f w + 1 → sm g N = if w < N then sm f N + 1 else sm f N
  | 0, _, _ => rfl
  | N + 1, h, hw => by
    unfold sm
    rw [sm_up f g w N (fun v a b => h v (by omega) b) hw]
    by_cases e : w = N
    · subst e
      rw [if_neg (by omega), if_pos (by omega), hw]
      omega
    · rw [h N (by omega) (fun q => e q.symm)]
      by_cases q : w < N
      · rw [if_pos q, if_pos (by omega)]; omega
      · rw [if_neg q, if_neg (by omega)]
theorem sm_le (f g : Nat → Nat) : ∀ N, (∀ v, v < N → f v ≤ g v) → sm f N ≤ sm g N
  | 0, _ => Nat.le_refl _
  | N + 1, h => by
    unfold sm
    have := sm_le f g N (fun v hv => h v (by omega))
    have := h N (by omega)
    omega
theorem ga_lst {L : Nat → E7} {x : Int32} : ∀ n, ga L x n = ga L x (lst L x n)
  | 0 => rfl
  | n + 1 => by
    by_cases e : (L (n + 1)).2.1 = x
    · have : lst L x (n + 1) = n + 1 := by unfold lst; rw [if_pos e]
      rw [this]
    · have : lst L x (n + 1) = lst L x n := by show (if _ then _ else _) = _; rw [if_neg e]
      rw [this, ← ga_lst n]
      show (if _ then _ else _) = _
      rw [if_neg (fun q => e q.1)]
theorem ga_s (L : Nat → E7) (x : Int32) (n : Nat) (h : (L (n + 1)).2.1 = x) (k : (L (n + 1)).1 = 0 ∨ (L (n + 1)).1 = 1) : ga L x (n + 1) = ga L x n + 1 := by
  show (if _ then _ else _) = _
  rw [if_pos ⟨h, k⟩]
theorem ga_n (L : Nat → E7) (x : Int32) (n : Nat) (h : ¬ ((L (n + 1)).2.1 = x ∧ ((L (n + 1)).1 = 0 ∨ (L (n + 1)).1 = 1))) : ga L x (n + 1) = ga L x n := by
  show (if _ then _ else _) = _
  rw [if_neg h]
theorem gb_s (L : Nat → E7) (x : Int32) (n : Nat) (h : (L (n + 1)).2.1 = x) (k : ¬ ((L (n + 1)).1 = 0 ∨ (L (n + 1)).1 = 1)) : gb L x (n + 1) = gb L x n + 1 := by
  show (if _ then _ else _) = _
  rw [if_pos ⟨h, k⟩]
theorem gb_n (L : Nat → E7) (x : Int32) (n : Nat) (h : ¬ ((L (n + 1)).2.1 = x ∧ ¬ ((L (n + 1)).1 = 0 ∨ (L (n + 1)).1 = 1))) : gb L x (n + 1) = gb L x n := by
  show (if _ then _ else _) = _
  rw [if_neg h]
theorem ga_sm {L : Nat → E7} : ∀ n, VL L n → ta L n = sm (fun w => ga L (nI w) n) 16
  | 0, _ => rfl
  | n + 1, h => by
    obtain ⟨w, h3, h4⟩ := wk_of (n + 1) h (n + 1) (by omega) (Nat.le_refl _)
    have h16 := nwk_16 (n + 1) h
    by_cases k : (L (n + 1)).1 = 0 ∨ (L (n + 1)).1 = 1
    · have e := sm_up (fun w => ga L (nI w) n) (fun w => ga L (nI w) (n + 1)) w 16 (fun v a b => ga_n L _ n (fun q => b (i_inj (by omega) (by omega) (q.1.symm.trans h4)))) (ga_s L _ n h4 k)
      rw [if_pos (by omega)] at e
      rw [e, ← ga_sm n h.1]
      show (if _ then _ else _) = _
      rw [if_pos k]
    · have e : ta L (n + 1) = ta L n := by show (if _ then _ else _) = _; rw [if_neg k]
      rw [e, ga_sm n h.1]
      congr 1
      funext w
      exact (ga_n L _ n (fun q => k q.2)).symm
theorem gb_sm {L : Nat → E7} : ∀ n, VL L n → tb L n = sm (fun w => gb L (nI w) n) 16
  | 0, _ => rfl
  | n + 1, h => by
    obtain ⟨w, h3, h4⟩ := wk_of (n + 1) h (n + 1) (by omega) (Nat.le_refl _)
    have h16 := nwk_16 (n + 1) h
    by_cases k : (L (n + 1)).1 = 0 ∨ (L (n + 1)).1 = 1
    · have e : tb L (n + 1) = tb L n := by show (if _ then _ else _) = _; rw [if_pos k]
      rw [e, gb_sm n h.1]
      congr 1
      funext w
      exact (gb_n L _ n (fun q => q.2 k)).symm
    · have e := sm_up (fun w => gb L (nI w) n) (fun w => gb L (nI w) (n + 1)) w 16 (fun v a b => gb_n L _ n (fun q => b (i_inj (by omega) (by omega) (q.1.symm.trans h4)))) (gb_s L _ n h4 k)
      rw [if_pos (by omega)] at e
      rw [e, ← gb_sm n h.1]
      show (if _ then _ else _) = _
      rw [if_neg k]
theorem tab (L : Nat → E7) : ∀ n, ta L n + tb L n = n
  | 0 => rfl
  | n + 1 => by
    have := tab L n
    unfold ta tb
    split <;> omega
theorem ta_150 {L : Nat → E7} : ∀ n, VL L n → ta L n ≤ 150
  | 0, _ => by unfold ta; omega
  | n + 1, h => by
    have h1 := ta_150 n h.1
    have h2 := tab L n
    unfold ta
    split
    · rename_i k
      have h3 : n < 150 := by
        rcases k with k | k
        · exact (vent_0 h.2 k).2.2
        · exact (vent_1 h.2 k).2.2.1
      omega
    · exact h1
/-- each work has at least as many ups as downs; an open one: as many more as its entry to go on with has -/
theorem gab {L : Nat → E7} : ∀ n, VL L n → ∀ x, (opn L x n → ga L x n = gb L x n + ga L x (gon L x n)) ∧ gb L x n ≤ ga L x n
  | 0, _, x => ⟨fun h => by have := h.1; simp [lst] at this, Nat.le_refl _⟩
  | n + 1, h, x => by
    obtain ⟨i1, i2⟩ := gab n h.1 x
    by_cases e : (L (n + 1)).2.1 = x
    · have hl : lst L x (n + 1) = n + 1 := by show (if _ then _ else _) = _; rw [if_pos e]
      have hv := h.2
      rcases vent_k hv with k | k | k | k | k
      · have hz : lst L x n = 0 := by rw [← e, (vent_0 hv k).1]; exact wk_new h.1
        have g0 : gb L x n = 0 := by
          have : ∀ m, m ≤ n → gb L x m = 0 := by
            intro m
            induction m with
            | zero => intro _; rfl
            | succ m ihm =>
              intro hm
              rw [gb_n L x m (fun q => by have := lst_ge L x (n := n) (i := m + 1) (by omega) (by omega) q.1; omega)]
              exact ihm (by omega)
          exact this n (Nat.le_refl _)
        rw [ga_s L x n e (Or.inl k), gb_n L x n (fun q => q.2 (Or.inl k))]
        refine ⟨fun _ => ?_, by omega⟩
        unfold gon
        rw [hl, if_neg (by rw [k]; exact d02), ga_s L x n e (Or.inl k), g0]
        omega
      · obtain ⟨o1, o2, -⟩ := vent_1 hv k
        rw [e] at o1 o2
        rw [ga_s L x n e (Or.inr k), gb_n L x n (fun q => q.2 (Or.inr k))]
        refine ⟨fun _ => ?_, by omega⟩
        have j1 := i1 o1
        have : gon L x n = lst L x n := by
          unfold gon
          rw [if_neg (by rcases o2 with q | q <;> rw [q] <;> decide)]
        rw [this, ← ga_lst] at j1
        unfold gon
        rw [hl, if_neg (by rw [k]; exact d12), ga_s L x n e (Or.inr k)]
        omega
      · obtain ⟨o1, o2, -, -, -, o6⟩ := vent_2 hv k
        rw [e] at o1 o2 o6
        have nk : ¬ ((L (n + 1)).1 = 0 ∨ (L (n + 1)).1 = 1) := by rw [k]; decide
        rw [ga_n L x n (fun q => nk q.2), gb_s L x n e nk]
        have j1 := i1 o1
        obtain ⟨m1, m2, m3, m4, -⟩ := gon_ok n h.1 x o1
        have hmn : gon L x n ≤ n := Nat.le_trans m2 (lst_le _ _ _)
        have hm := VL_at h.1 m1 hmn
        obtain ⟨q1, q2, q3, -⟩ := vent_1 hm o2
        rw [m3] at q1 q2
        have hge : lst L x (gon L x n - 1) ≤ gon L x n - 1 := lst_le _ _ _
        have e2 : gon L x (n + 1) = lst L x (gon L x n - 1) := by
          unfold gon
          rw [hl, if_pos k, o6, hm.1, m3]
          exact i_cl (by omega)
        have e3 : ga L x (gon L x n) = ga L x (gon L x n - 1) + 1 := by
          obtain ⟨j, hj⟩ : ∃ j, gon L x n = j + 1 := ⟨gon L x n - 1, by omega⟩
          rw [hj] at m3 o2 ⊢
          exact ga_s L x j m3 (Or.inr o2)
        rw [ga_lst (gon L x n - 1)] at e3
        refine ⟨fun _ => ?_, by omega⟩
        rw [e2]
        omega
      · obtain ⟨o1, o2, -⟩ := vent_3 hv k
        rw [e] at o1 o2
        have nk : ¬ ((L (n + 1)).1 = 0 ∨ (L (n + 1)).1 = 1) := by rw [k]; decide
        rw [ga_n L x n (fun q => nk q.2), gb_s L x n e nk]
        have j1 := i1 o1
        obtain ⟨m1, m2, m3, m4, -⟩ := gon_ok n h.1 x o1
        refine ⟨fun q => absurd (by rw [hl]; exact k) q.2.1, ?_⟩
        obtain ⟨j, hj⟩ : ∃ j, gon L x n = j + 1 := ⟨gon L x n - 1, by omega⟩
        rw [hj] at m3 m4 j1
        rw [ga_s L x j m3 m4] at j1
        omega
      · obtain ⟨o1, o2⟩ := vent_4 hv k
        rw [e] at o1 o2
        have nk : ¬ ((L (n + 1)).1 = 0 ∨ (L (n + 1)).1 = 1) := by rw [k]; decide
        rw [ga_n L x n (fun q => nk q.2), gb_s L x n e nk]
        have j1 := i1 o1
        obtain ⟨m1, m2, m3, m4, -⟩ := gon_ok n h.1 x o1
        refine ⟨fun q => absurd (by rw [hl]; exact k) q.2.2, ?_⟩
        obtain ⟨j, hj⟩ : ∃ j, gon L x n = j + 1 := ⟨gon L x n - 1, by omega⟩
        rw [hj] at m3 m4 j1
        rw [ga_s L x j m3 m4] at j1
        omega
    · have hl : lst L x (n + 1) = lst L x n := by show (if _ then _ else _) = _; rw [if_neg e]
      rw [ga_n L x n (fun q => e q.1), gb_n L x n (fun q => e q.1)]
      have ho : opn L x (n + 1) → opn L x n := fun q => by unfold opn at q ⊢; rw [hl] at q; exact q
      have hg : gon L x (n + 1) = gon L x n := by unfold gon; rw [hl]
      exact ⟨fun q => by rw [hg]; exact i1 (ho q), i2⟩
theorem tb_ta {L : Nat → E7} {n : Nat} (h : VL L n) : tb L n ≤ ta L n := by
  rw [ga_sm n h, gb_sm n h]
  exact sm_le _ _ 16 (fun v _ => (gab n h (nI v)).2)
theorem VL_300 {L : Nat → E7} {n : Nat} (h : VL L n) : n ≤ 300 := by
  have h1 := tb_ta h
  have h2 := tab L n
  have h3 := ta_150 n h
  omega
theorem ga_1 {L : Nat → E7} {n : Nat} (h : VL L n) {x : Int32} {m : Nat} (h1 : 1 ≤ m) (h2 : m ≤ n) (hx : (L m).2.1 = x) (k : (L m).1 = 0 ∨ (L m).1 = 1) : ((L m).1 = 0 → ga L x m = 1) ∧ ((L m).1 = 1 → ga L x m = ga L x (lst L x (m - 1)) + 1 ∧ 1 ≤ lst L x (m - 1) ∧ lst L x (m - 1) < m ∧ (L (lst L x (m - 1))).2.1 = x ∧ ((L (lst L x (m - 1))).1 = 0 ∨ (L (lst L x (m - 1))).1 = 1)) := by
  have hv := VL_at h h1 h2
  obtain ⟨j, rfl⟩ : ∃ j, m = j + 1 := ⟨m - 1, by omega⟩
  have hj : VL L j := VL_le h (by omega)
  constructor
  · intro k0
    have hz : lst L x j = 0 := by rw [← hx, (vent_0 hv k0).1]; exact wk_new hj
    rw [ga_s L x j hx k, ga_lst, hz]
    rfl
  · intro k1
    obtain ⟨q1, q2, -⟩ := vent_1 hv k1
    rw [hx] at q1 q2
    have : j + 1 - 1 = j := by omega
    rw [this]
    rw [this] at q1 q2
    refine ⟨by rw [ga_s L x j hx k, ← ga_lst], q1.1, by have := lst_le L x j; omega, lst_of L x j q1.1, q2⟩
