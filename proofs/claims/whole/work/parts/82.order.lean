/-! ===== PURE 33: an order, read on both sides ===== -/
theorem ob_same {α : Type _} {Q : Prop} {x : α} : ob Q x x = x := by
  by_cases q : Q
  · exact ob_t q
  · exact ob_f q
section OP
variable {P : V_Pd} {M : V_Md} {m i n : Nat} {A B C D : Nat → Int32}
theorem oR_98 (hc : f_Pd_at (nI i) P = some 98) (hn : n < 80) : f_Or_readOrder (oW A B C D n i) P = some (oW (upd A n 98) B C D (n + 1) (i + 1)) := by
  unfold f_Or_readOrder
  dsimp only [oW]
  rw [hc, oc_s, ob_rfl, k80, ob_ltt hn (by omega), og_in hn (by omega), i_cl (by omega), nx_s, ob_rfl, kk1, i_add, i_add]
theorem oR_120 (hc : f_Pd_at (nI i) P = some 120) (hn : n < 80) : f_Or_readOrder (oW A B C D n i) P = some (oW (upd A n 120) B C D (n + 1) (i + 1)) := by
  unfold f_Or_readOrder
  dsimp only [oW]
  rw [hc, oc_s, ob_rfl, k80, ob_ltt hn (by omega), og_in hn (by omega), i_cl (by omega), nx_s]
  repeat rw [ob_f (by decide)]
  rw [ob_rfl, kk1, i_add, i_add]
theorem oR_112 (hc : f_Pd_at (nI i) P = some 112) (hn : n < 80) : f_Or_readOrder (oW A B C D n i) P = wP (oW (upd A n 112) B C D n (i + 1)) P := by
  unfold f_Or_readOrder
  dsimp only [oW]
  rw [hc, oc_s, ob_rfl, k80, ob_ltt hn (by omega), og_in hn (by omega), i_cl (by omega), nx_s]
  repeat rw [ob_f (by decide)]
  rw [ob_rfl, ← i_add i 1]
  unfold wP
  dsimp only [oW]
  rw [i_cl (by omega)]
  rfl
theorem oR_119 (hc : f_Pd_at (nI i) P = some 119) (hn : n < 80) : f_Or_readOrder (oW A B C D n i) P = wA (oW (upd A n 119) B C D n (i + 1)) P := by
  unfold f_Or_readOrder
  dsimp only [oW]
  rw [hc, oc_s, ob_rfl, k80, ob_ltt hn (by omega), og_in hn (by omega), i_cl (by omega), nx_s]
  repeat rw [ob_f (by decide)]
  rw [ob_rfl, ← i_add i 1]
  unfold wA wB wC
  dsimp only [oW]
  rw [i_cl (by omega)]
  rfl
theorem oR_num {c : Int32} (hc : f_Pd_at (nI i) P = some c) (hn : n < 80) (k : c = 102 ∨ c = 109 ∨ c = 115 ∨ c = 116) : f_Or_readOrder (oW A B C D n i) P = f_Or_readOrder_235 (oW (upd A n c) B C D n (i + 1)) P := by
  unfold f_Or_readOrder
  dsimp only [oW]
  rw [hc, oc_s, ob_rfl, k80, ob_ltt hn (by omega), og_in hn (by omega), i_cl (by omega), nx_s, ← i_add i 1]
  rcases k with rfl | rfl | rfl | rfl
  · repeat rw [ob_f (by decide)]
    rw [ob_rfl]
    rfl
  · repeat rw [ob_f (by decide)]
    rw [ob_rfl]
    rfl
  · repeat rw [ob_f (by decide)]
    rw [ob_rfl]
    rfl
  · repeat rw [ob_f (by decide)]
    rw [ob_rfl]
    rfl
theorem oR_no {c : Int32} (hc : f_Pd_at (nI i) P = some c) (hn : n < 80) (h1 : ¬ c = 98) (h2 : ¬ c = 120) (h3 : ¬ c = 112) (h4 : ¬ c = 119) (h5 : ¬ c = 102) (h6 : ¬ c = 109) (h7 : ¬ c = 115) (h8 : ¬ c = 116) : f_Or_readOrder (oW A B C D n i) P = some (oE (upd A n c) B C D n (i + 1) i) := by
  have x1 : ∀ a b : Option V_Or, ob (c = 98) a b = b := fun a b => ob_f h1
  have x2 : ∀ a b : Option V_Or, ob (c = 120) a b = b := fun a b => ob_f h2
  have x3 : ∀ a b : Option V_Or, ob (c = 112) a b = b := fun a b => ob_f h3
  have x4 : ∀ a b : Option V_Or, ob (c = 119) a b = b := fun a b => ob_f h4
  have x5 : ∀ a b : Option V_Or, ob (c = 102) a b = b := fun a b => ob_f h5
  have x6 : ∀ a b : Option V_Or, ob (c = 109) a b = b := fun a b => ob_f h6
  have x7 : ∀ a b : Option V_Or, ob (c = 115) a b = b := fun a b => ob_f h7
  have x8 : ∀ a b : Option V_Or, ob (c = 116) a b = b := fun a b => ob_f h8
  unfold f_Or_readOrder
  dsimp only [oW]
  rw [hc, oc_s, ob_rfl, k80, ob_ltt hn (by omega), og_in hn (by omega), i_cl (by omega), nx_s]
  simp only [x1, x2, x3, x4, x5, x6, x7, x8, ob_same]
  rw [kk1, i_add, i_sub (by omega), Nat.add_sub_cancel]
/-- the order that stands at a place -/
def ORD (M : V_Md) (m i : Nat) (c a1 a2 a3 : Int32) (j : Nat) : Prop :=
  i < m ∧ i < j ∧ j ≤ m ∧ M.2.2.2.2.2.2.1 i = c ∧
  (((c = 98 ∨ c = 120) ∧ j = i + 1) ∨
   (c = 112 ∧ ∀ R : Nat → Int32, f_Md_taken 48 55 (mP (R, M.2) (i + 1)) = some (a2, mP (R, M.2) j)) ∨
   ((c = 102 ∨ c = 109 ∨ c = 115 ∨ c = 116) ∧ (∃ l : Nat, l ≤ 999 ∧ a1 = nI l) ∧ ∀ R : Nat → Int32, f_Md_number (mP (R, M.2) (i + 1)) = some (a1, mP (R, M.2) j)) ∨
   (c = 119 ∧ ∃ k, ∀ R : Nat → Int32, f_Md_number (mP (R, M.2) (i + 1)) = some (a1, mP (R, M.2) k) ∧ f_Md_taken 48 55 (mP (R, M.2) (k + 1)) = some (a2, mP (R, M.2) (k + 2)) ∧ f_Md_number (mP (R, M.2) (k + 3)) = some (a3, mP (R, M.2) j)))
def KEPT (v v' : V_Or) (n : Nat) : Prop := ∀ t, t < n → v'.1 t = v.1 t ∧ v'.2.1 t = v.2.1 t ∧ v'.2.2.1 t = v.2.2.1 t ∧ v'.2.2.2.1 t = v.2.2.2.1 t
end OP
