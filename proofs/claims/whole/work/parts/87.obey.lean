/-! ===== PURE 38: an order obeyed: the shapes ===== -/
theorem oc_id {α β : Type _} (x : Option (α × β)) : oc x (fun q => some (q.1, q.2)) = x := by
  cases x with
  | none => rfl
  | some y => rfl
section OB
variable {O : V_Or} {w : V_St} {k : Nat}
theorem ob_98 (hk : k < 80) (h : O.1 k = 98) : f_Or_obey (nI k) O w = f_St_beginWork w := by
  unfold f_Or_obey
  rw [ob_f (show ¬ nI k < 0 by rw [k0]; exact nI_nlt (by omega) (by omega)), k80, ob_ltt hk (by omega), og_in hk (by omega), i_cl (by omega), h, ob_rfl, oc_id]
theorem ob_120 (hk : k < 80) (h : O.1 k = 120) : f_Or_obey (nI k) O w = f_St_takeFlood w := by
  unfold f_Or_obey
  rw [ob_f (show ¬ nI k < 0 by rw [k0]; exact nI_nlt (by omega) (by omega)), k80, ob_ltt hk (by omega), og_in hk (by omega), i_cl (by omega), h]
  repeat rw [ob_f (by decide)]
  rw [ob_rfl, oc_id]
theorem ob_102 (hk : k < 80) (h : O.1 k = 102) : f_Or_obey (nI k) O w = f_St_finishWork (O.2.1 k) w := by
  unfold f_Or_obey
  rw [ob_f (show ¬ nI k < 0 by rw [k0]; exact nI_nlt (by omega) (by omega)), k80, ob_ltt hk (by omega), og_in hk (by omega), i_cl (by omega), h]
  repeat rw [ob_f (by decide)]
  rw [ob_rfl, og_in hk (by omega), oc_id]
theorem ob_109 (hk : k < 80) (h : O.1 k = 109) : f_Or_obey (nI k) O w = f_St_mendSteps (O.2.1 k) w := by
  unfold f_Or_obey
  rw [ob_f (show ¬ nI k < 0 by rw [k0]; exact nI_nlt (by omega) (by omega)), k80, ob_ltt hk (by omega), og_in hk (by omega), i_cl (by omega), h]
  repeat rw [ob_f (by decide)]
  rw [ob_rfl, og_in hk (by omega), oc_id]
theorem ob_112 (hk : k < 80) (h : O.1 k = 112) : f_Or_obey (nI k) O w = f_St_shelvePage (O.2.2.1 k) w := by
  unfold f_Or_obey
  rw [ob_f (show ¬ nI k < 0 by rw [k0]; exact nI_nlt (by omega) (by omega)), k80, ob_ltt hk (by omega), og_in hk (by omega), i_cl (by omega), h]
  repeat rw [ob_f (by decide)]
  rw [ob_rfl, og_in hk (by omega), oc_id]
theorem ob_115 (hk : k < 80) (h : O.1 k = 115) : f_Or_obey (nI k) O w = f_St_saveEntries (O.2.1 k) w := by
  unfold f_Or_obey
  rw [ob_f (show ¬ nI k < 0 by rw [k0]; exact nI_nlt (by omega) (by omega)), k80, ob_ltt hk (by omega), og_in hk (by omega), i_cl (by omega), h]
  repeat rw [ob_f (by decide)]
  rw [ob_rfl, og_in hk (by omega), oc_id]
theorem ob_116 (hk : k < 80) (h : O.1 k = 116) : f_Or_obey (nI k) O w = f_St_tearWork (O.2.1 k) w := by
  unfold f_Or_obey
  rw [ob_f (show ¬ nI k < 0 by rw [k0]; exact nI_nlt (by omega) (by omega)), k80, ob_ltt hk (by omega), og_in hk (by omega), i_cl (by omega), h]
  repeat rw [ob_f (by decide)]
  rw [ob_rfl, og_in hk (by omega), oc_id]
theorem ob_119 (hk : k < 80) (h : O.1 k = 119) : f_Or_obey (nI k) O w = f_St_writePage (O.2.1 k) (O.2.2.1 k) (O.2.2.2.1 k) w := by
  unfold f_Or_obey
  rw [ob_f (show ¬ nI k < 0 by rw [k0]; exact nI_nlt (by omega) (by omega)), k80, ob_ltt hk (by omega), og_in hk (by omega), i_cl (by omega), h]
  repeat rw [ob_f (by decide)]
  rw [ob_rfl, og_in hk (by omega), og_in hk (by omega), og_in hk (by omega), oc_id]
end OB
abbrev mk1 (f : Nat → Int32) (v : V_Md) : V_Md := (f, v.2.1, v.2.2.1, v.2.2.2.1, v.2.2.2.2.1, v.2.2.2.2.2.1, v.2.2.2.2.2.2.1, v.2.2.2.2.2.2.2.1, v.2.2.2.2.2.2.2.2)
noncomputable def dS (why : Option Int32) (fr : Option (Int32 × (Nat → Int32))) (v : V_Md) : Option (Int32 × V_Md) :=
  oc why (fun q_164 => ob (q_164 = 0) (ob ((1 : Int32) = 0) (some ((1 : Int32), v)) (oc fr (fun q_184 => some ((1 : Int32), mk1 q_184.2 v)))) (ob ((0 : Int32) = 0) (some ((0 : Int32), v)) (oc fr (fun q_184 => some ((0 : Int32), mk1 q_184.2 v)))))
noncomputable def dV (why : Option Int32) (fr : Option (Nat → Int32)) (v : V_Md) : Option (Int32 × V_Md) :=
  oc why (fun q_164 => ob (q_164 = 0) (ob ((1 : Int32) = 0) (some ((1 : Int32), v)) (oc fr (fun q_184 => some ((1 : Int32), mk1 q_184 v)))) (ob ((0 : Int32) = 0) (some ((0 : Int32), v)) (oc fr (fun q_184 => some ((0 : Int32), mk1 q_184 v)))))
section OD
variable {s0 : Int32} {v : V_Md}
theorem d_98 : f_Md_doOrder_52 98 s0 v = dS (f_Md_whyNotBegin v.1) (f_Md_beginOn v.1) v := by
  unfold f_Md_doOrder_52
  rw [ob_rfl]
  rfl
theorem d_120 : f_Md_doOrder_52 120 s0 v = oc (f_Md_floodOn v.1) (fun q_397 => some ((1 : Int32), mk1 q_397.2 v)) := by
  unfold f_Md_doOrder_52
  repeat rw [ob_f (by decide)]
  rw [ob_rfl]
theorem d_102 : f_Md_doOrder_52 102 s0 v = dS (f_Md_whyNotFinish s0 v.1) (f_Md_finishOn s0 v.1) v := by
  unfold f_Md_doOrder_52
  repeat rw [ob_f (by decide)]
  rw [ob_rfl]
  rfl
theorem d_116 : f_Md_doOrder_52 116 s0 v = dS (f_Md_whyNotTear s0 v.1) (f_Md_tearOn s0 v.1) v := by
  unfold f_Md_doOrder_52
  repeat rw [ob_f (by decide)]
  rw [ob_rfl]
  rfl
theorem d_112 : f_Md_doOrder_52 112 s0 v = dS (f_Md_whyNotPutAway s0 v.1) (f_Md_putAwayOn s0 v.1) v := by
  unfold f_Md_doOrder_52
  repeat rw [ob_f (by decide)]
  rw [ob_rfl]
  rfl
theorem d_115 : f_Md_doOrder_52 115 s0 v = dV (f_Md_whyNotSave s0 v.1) (f_Md_saveTo s0 v.1) v := by
  unfold f_Md_doOrder_52
  repeat rw [ob_f (by decide)]
  rw [ob_rfl]
  rfl
theorem d_109 : f_Md_doOrder_52 109 s0 v = f_Md_doOrder_403 s0 v := by
  unfold f_Md_doOrder_52
  repeat rw [ob_f (by decide)]
  rw [ob_rfl]
theorem d_119 : f_Md_doOrder_52 119 s0 v = oc (f_Md_taken (48 : Int32) (55 : Int32) (v.1, v.2.1, v.2.2.1, v.2.2.2.1, v.2.2.2.2.1, v.2.2.2.2.2.1, v.2.2.2.2.2.2.1, v.2.2.2.2.2.2.2.1, (v.2.2.2.2.2.2.2.2 + (1 : Int32)))) (fun q_205 => oc (f_Md_number (q_205.2.1, q_205.2.2.1, q_205.2.2.2.1, q_205.2.2.2.2.1, q_205.2.2.2.2.2.1, q_205.2.2.2.2.2.2.1, q_205.2.2.2.2.2.2.2.1, q_205.2.2.2.2.2.2.2.2.1, (q_205.2.2.2.2.2.2.2.2.2 + (1 : Int32)))) (fun q_221 => dS (f_Md_whyNotWrite s0 q_205.1 q_221.1 q_221.2.1) (f_Md_writeOn s0 q_205.1 q_221.1 q_221.2.1) q_221.2)) := by
  unfold f_Md_doOrder_52
  repeat rw [ob_f (by decide)]
  rw [ob_rfl]
  rfl
end OD
