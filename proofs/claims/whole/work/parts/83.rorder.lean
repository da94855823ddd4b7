/-! ===== PURE 34: an order, read by the reference ===== -/
section RP
variable {M : V_Md} {i : Nat}
theorem mO_no {c : Int32} (hc : f_Md_sign (mP M i) = some c) (h1 : ¬ c = 98) (h2 : ¬ c = 120) (h3 : ¬ c = 112) (h4 : ¬ c = 119) (h5 : ¬ c = 102) (h6 : ¬ c = 109) (h7 : ¬ c = 115) (h8 : ¬ c = 116) : f_Md_readOrder (mP M i) = some (0, mP M i) := by
  unfold f_Md_readOrder
  rw [hc, oc_s, ob_f h1, ob_f h4, ob_f h5, ob_f h8, ob_f h3, ob_f h7, ob_f h2, ob_f h6]
theorem mO_bx {c : Int32} (hc : f_Md_sign (mP M i) = some c) (h : c = 98 ∨ c = 120) : f_Md_readOrder (mP M i) = some (1, mP M (i + 1)) := by
  have ei : nI i + (1 : Int32) = nI (i + 1) := by rw [kk1, i_add]
  have e : f_Md_readOrder_55 c (mP M i) = some (1, mP M (i + 1)) := by
    unfold f_Md_readOrder_55
    dsimp only [mP]
    rcases h with rfl | rfl
    · rw [ob_rfl, ei]
    · rw [ob_f (by decide), ob_rfl, ei]
  unfold f_Md_readOrder
  rw [hc, oc_s, e]
  rcases h with rfl | rfl
  · rw [ob_rfl]
  · repeat rw [ob_f (by decide)]
    rw [ob_rfl]
theorem mO_p (hc : f_Md_sign (mP M i) = some 112) : f_Md_readOrder (mP M i) = oc (f_Md_taken 48 55 (mP M (i + 1))) (fun q => ob (q.1 = (-6 : Int32)) (some (0, q.2)) (some (1, q.2))) := by
  have ei : nI i + (1 : Int32) = nI (i + 1) := by rw [kk1, i_add]
  have e : f_Md_readOrder_55 112 (mP M i) = oc (f_Md_taken 48 55 (mP M (i + 1))) (fun q => ob (q.1 = (-6 : Int32)) (some (0, q.2)) (some (1, q.2))) := by
    unfold f_Md_readOrder_55
    dsimp only [mP]
    rw [ob_f (by decide), ob_f (by decide), ob_rfl, ei]
  unfold f_Md_readOrder
  rw [hc, oc_s, e]
  repeat rw [ob_f (by decide)]
  rw [ob_rfl]
theorem mO_num {c : Int32} (hc : f_Md_sign (mP M i) = some c) (h : c = 102 ∨ c = 109 ∨ c = 115 ∨ c = 116 ∨ c = 119) : f_Md_readOrder (mP M i) = oc (f_Md_number (mP M (i + 1))) (fun q => ob (q.1 = (-6 : Int32)) (f_Md_readOrder_118 c 0 q.2) (f_Md_readOrder_118 c 1 q.2)) := by
  have ei : nI i + (1 : Int32) = nI (i + 1) := by rw [kk1, i_add]
  have e : f_Md_readOrder_55 c (mP M i) = oc (f_Md_number (mP M (i + 1))) (fun q => ob (q.1 = (-6 : Int32)) (f_Md_readOrder_118 c 0 q.2) (f_Md_readOrder_118 c 1 q.2)) := by
    unfold f_Md_readOrder_55
    dsimp only [mP]
    rw [ei]
    rcases h with rfl | rfl | rfl | rfl | rfl
    · rw [ob_f (by decide), ob_f (by decide), ob_f (by decide)]
    · rw [ob_f (by decide), ob_f (by decide), ob_f (by decide)]
    · rw [ob_f (by decide), ob_f (by decide), ob_f (by decide)]
    · rw [ob_f (by decide), ob_f (by decide), ob_f (by decide)]
    · rw [ob_f (by decide), ob_f (by decide), ob_f (by decide)]
  unfold f_Md_readOrder
  rw [hc, oc_s, e]
  rcases h with rfl | rfl | rfl | rfl | rfl
  · repeat rw [ob_f (by decide)]
    rw [ob_rfl]
  · repeat rw [ob_f (by decide)]
    rw [ob_rfl]
  · repeat rw [ob_f (by decide)]
    rw [ob_rfl]
  · repeat rw [ob_f (by decide)]
    rw [ob_rfl]
  · repeat rw [ob_f (by decide)]
    rw [ob_rfl]
theorem r118_0 (c : Int32) (v : V_Md) : f_Md_readOrder_118 c 0 v = some (0, v) := by
  unfold f_Md_readOrder_118
  exact ob_t rfl
theorem r118_1 {c : Int32} (h : ¬ c = 119) (v : V_Md) : f_Md_readOrder_118 c 1 v = some (1, v) := by
  unfold f_Md_readOrder_118
  rw [ob_f d10, ob_f h]
theorem r118_w (v : V_Md) : f_Md_readOrder_118 119 1 v = oc (f_Md_taken (62 : Int32) (62 : Int32) v) (fun q_134 => ob (q_134.1 = (-6 : Int32)) (some ((0 : Int32), q_134.2)) (oc (f_Md_taken (48 : Int32) (55 : Int32) q_134.2) (fun q_147 => ob (q_147.1 = (-6 : Int32)) (some ((0 : Int32), q_147.2)) (oc (f_Md_taken (61 : Int32) (61 : Int32) q_147.2) (fun q_160 => ob (q_160.1 = (-6 : Int32)) (some ((0 : Int32), q_160.2)) (oc (f_Md_number q_160.2) (fun q_169 => ob (q_169.1 = (-6 : Int32)) (some ((0 : Int32), q_169.2)) (some ((1 : Int32), q_169.2))))))))) := by
  unfold f_Md_readOrder_118
  rw [ob_f d10, ob_rfl]
end RP
