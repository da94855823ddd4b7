/-! ===== PURE 35: an order on both sides ===== -/
def RDO (P : V_Pd) (M : V_Md) (m i n : Nat) (A B C D : Nat → Int32) : Prop :=
  ∃ v' : V_Or, f_Or_readOrder (oW A B C D n i) P = some v' ∧
  ((∃ j, f_Md_readOrder (mP M i) = some (1, mP M j) ∧ KEPT (oW A B C D n i) v' n ∧ v'.2.2.2.2.1 = nI (n + 1) ∧ v'.2.2.2.2.2.1 = nI j ∧ v'.2.2.2.2.2.2 = (-6 : Int32) ∧ ORD M m i (v'.1 n) (v'.2.1 n) (v'.2.2.1 n) (v'.2.2.2.1 n) j) ∨
   (∃ j, j < 2147483648 ∧ f_Md_readOrder (mP M i) = some (0, mP M j) ∧ (v'.2.2.2.2.2.2 = nI j ∨ (v'.2.2.2.2.2.2 = (-6 : Int32) ∧ v'.2.2.2.2.1 = nI (n + 1) ∧ v'.2.2.2.2.2.1 = nI j ∧ j < m ∧ dT M.2.2.2.2.2.2.1 m j))))
section OQ
variable {P : V_Pd} {M : V_Md} {m i n : Nat} {A B C D : Nat → Int32}
theorem wP_ok {p j : Nat} (hn : n < 80) (x : f_Or_readPage (oW A B C D n i) P = some (nI p, oW A B C D n j)) : wP (oW A B C D n i) P = some (oW A B (upd C n (nI p)) D (n + 1) j) := by
  unfold wP
  rw [x, oc_s]
  show og (vp_in (nI n) 80) (nx (upd C (nI n).toNatClampNeg (nI p)) (fun r => some (A, B, r, D, nI n + 1, nI j, (-6 : Int32)))) = _
  rw [og_in hn (by omega), i_cl (by omega), nx_s, kk1, i_add]
theorem wP_no {e : Nat} (hn : n < 80) (x : f_Or_readPage (oW A B C D n i) P = some (0, oE A B C D n i e)) : wP (oW A B C D n i) P = some (oE A B (upd C n 0) D (n + 1) i e) := by
  unfold wP
  rw [x, oc_s]
  show og (vp_in (nI n) 80) (nx (upd C (nI n).toNatClampNeg 0) (fun r => some (A, B, r, D, nI n + 1, nI i, nI e))) = _
  rw [og_in hn (by omega), i_cl (by omega), nx_s, kk1, i_add]
theorem w2_ok {l j : Nat} (hn : n < 80) (x : f_Or_readNumber (oW A B C D n i) P = some (nI l, oW A B C D n j)) : f_Or_readOrder_235 (oW A B C D n i) P = some (oW A (upd B n (nI l)) C D (n + 1) j) := by
  unfold f_Or_readOrder_235
  rw [x, oc_s]
  show og (vp_in (nI n) 80) (nx (upd B (nI n).toNatClampNeg (nI l)) (fun r => some (A, r, C, D, nI n + 1, nI j, (-6 : Int32)))) = _
  rw [og_in hn (by omega), i_cl (by omega), nx_s, kk1, i_add]
theorem w2_no {e : Nat} (hn : n < 80) (x : f_Or_readNumber (oW A B C D n i) P = some (0, oE A B C D n i e)) : f_Or_readOrder_235 (oW A B C D n i) P = some (oE A (upd B n 0) C D (n + 1) i e) := by
  unfold f_Or_readOrder_235
  rw [x, oc_s]
  show og (vp_in (nI n) 80) (nx (upd B (nI n).toNatClampNeg 0) (fun r => some (A, r, C, D, nI n + 1, nI i, nI e))) = _
  rw [og_in hn (by omega), i_cl (by omega), nx_s, kk1, i_add]
theorem wC_ok {l j : Nat} (hn : n < 80) (x : f_Or_readNumber (oW A B C D n i) P = some (nI l, oW A B C D n j)) : wC (oW A B C D n i) P = some (oW A B C (upd D n (nI l)) (n + 1) j) := by
  unfold wC
  rw [x, oc_s]
  show og (vp_in (nI n) 80) (nx (upd D (nI n).toNatClampNeg (nI l)) (fun r => some (A, B, C, r, nI n + 1, nI j, (-6 : Int32)))) = _
  rw [og_in hn (by omega), i_cl (by omega), nx_s, kk1, i_add]
theorem wC_no {e : Nat} (hn : n < 80) (x : f_Or_readNumber (oW A B C D n i) P = some (0, oE A B C D n i e)) : wC (oW A B C D n i) P = some (oE A B C (upd D n 0) (n + 1) i e) := by
  unfold wC
  rw [x, oc_s]
  show og (vp_in (nI n) 80) (nx (upd D (nI n).toNatClampNeg 0) (fun r => some (A, B, C, r, nI n + 1, nI i, nI e))) = _
  rw [og_in hn (by omega), i_cl (by omega), nx_s, kk1, i_add]
theorem wB_ok {p j : Nat} (hn : n < 80) (x : f_Or_readPage (oW A B C D n i) P = some (nI p, oW A B C D n j)) : wB (oW A B C D n i) P = oc (f_Or_expect 61 (oW A B (upd C n (nI p)) D n j) P) (fun q => wC q P) := by
  unfold wB
  rw [x, oc_s]
  show og (vp_in (nI n) 80) (nx (upd C (nI n).toNatClampNeg (nI p)) (fun r => oc (f_Or_expect 61 (A, B, r, D, nI n, nI j, (-6 : Int32)) P) (fun q => wC q P))) = _
  rw [og_in hn (by omega), i_cl (by omega), nx_s]
theorem wB_no {e : Nat} (hn : n < 80) (he : e < 2147483648) (x : f_Or_readPage (oW A B C D n i) P = some (0, oE A B C D n i e)) : wB (oW A B C D n i) P = some (oE A B (upd C n 0) (upd D n 0) (n + 1) i e) := by
  unfold wB
  rw [x, oc_s]
  show og (vp_in (nI n) 80) (nx (upd C (nI n).toNatClampNeg 0) (fun r => oc (f_Or_expect 61 (A, B, r, D, nI n, nI i, nI e) P) (fun q => wC q P))) = _
  rw [og_in hn (by omega), i_cl (by omega), nx_s, f_expe he, oc_s, f_wC hn he]
theorem wA_ok {l j : Nat} (hn : n < 80) (x : f_Or_readNumber (oW A B C D n i) P = some (nI l, oW A B C D n j)) : wA (oW A B C D n i) P = oc (f_Or_expect 62 (oW A (upd B n (nI l)) C D n j) P) (fun q => wB q P) := by
  unfold wA
  rw [x, oc_s]
  show og (vp_in (nI n) 80) (nx (upd B (nI n).toNatClampNeg (nI l)) (fun r => oc (f_Or_expect 62 (A, r, C, D, nI n, nI j, (-6 : Int32)) P) (fun q => wB q P))) = _
  rw [og_in hn (by omega), i_cl (by omega), nx_s]
theorem wA_no {e : Nat} (h : PD P M.2.2.2.2.2.2.1 M.2.2.2.2.2.2.2.1 m) (hm : m ≤ 80) (hi : i < 2147483648) (hn : n < 80) (he : e < 2147483648) (x : f_Or_readNumber (oW A B C D n i) P = some (0, oE A B C D n i e)) : wA (oW A B C D n i) P = some (oE A (upd B n 0) (upd C n 0) (upd D n 0) (n + 1) i e) := by
  unfold wA
  rw [x, oc_s]
  show og (vp_in (nI n) 80) (nx (upd B (nI n).toNatClampNeg 0) (fun r => oc (f_Or_expect 62 (A, r, C, D, nI n, nI i, nI e) P) (fun q => wB q P))) = _
  rw [og_in hn (by omega), i_cl (by omega), nx_s, f_expe he, oc_s, f_wB h hm hi hn he]
end OQ
