section LC
variable {p : Program} {l : Launch} {e : Env} {s : State} {m : MethodId} {below : List Frame} {meth : Method} {c : Code} {H : Heap} {locs : List Loc} {cells slots : Nat} {Q : State → Prop}
variable {b L i : Nat} {xs : Nat → Int32} {G : GG} {a ca : Nat → Nat} {h : Nat} {Y : va_W} {V : V_Fd} {M : V_Md} {ls : Array Slot}
set_option maxHeartbeats 4000000 in
set_option maxRecDepth 100000 in
theorem lc_begin (Z : CX p s m c b L xs G) (hI : ALL V M) (hs : SLS G h Y M) (hP : va_P G.1 vwCl (W_Fd G a h Y V ++ W_Md G ca M) H) (hD : va_D (AA s) (W_Fd G a h Y V ++ W_Md G ca M)) (hS : va_S (AA s) s.heap H locs) (hl : lv_has ls 4 [(0, .ref b), (1, .ref (a 0)), (2, .ref (ca 0)), (3, .int (nI i))]) (hi : i + 4 ≤ L) (hL : L ≤ 2048) (hf : cells + 20 ≤ room_1.cells ∧ slots + 2248 ≤ room_1.slots) (go : GO p l e s m below meth c b G a ca h ls cells slots Q) :
    W p l e room_1 s m #[Value.ref b] below meth c H locs cells slots Q (F0 m 144 ls []) := by
  obtain ⟨hx, hb, hml, hown, hts, hX, hbl, hK, hN⟩ := id Z
  have hf0 : cells ≤ room_1.cells ∧ slots ≤ room_1.slots := ⟨by have := hf.1; omega, by have := hf.2; omega⟩
  obtain ⟨r, V1, M1, e1, e2, hI1, g1, g2⟩ := cs_begin hI
  refine lv_aload_n hx hb d_law_144 rfl (lv_at hl 1 rfl) ?_
  refine kFd (index := 13) Z hP hD hS (t_Fd_begin l G a h Y V (r, V1) e1) m_Fd_begin k_237 ⟨Nat.le_of_ble_eq_true rfl, Nat.le_of_ble_eq_true rfl⟩ rfl rfl (Nat.le_of_ble_eq_true rfl) hl.1 d_law_145 hf0 (fun H locs hP hD hS => ?_)
  refine lv_aload_n hx hb d_law_148 rfl (lv_at hl 2 rfl) ?_
  refine kMd (index := 17) Z hP hD hS (t_Md_begin l G ca M (r, M1) e2) m_Md_begin k_782 ⟨Nat.le_of_ble_eq_true rfl, Nat.le_of_ble_eq_true rfl⟩ rfl rfl (Nat.le_of_ble_eq_true rfl) hl.1 d_law_149 hf0 (fun H locs hP hD hS => ?_)
  refine lv_icmp_eq (tgt := 696) hx hb d_law_152 (by decide) (fun _ => ?_) (fun z => absurd rfl z)
  refine W.widen (k := cells + 20) (n := slots + 2248) (Nat.le_add_right _ _) (Nat.le_add_right _ _) ?_
  exact go Y V1 M1 H locs hI1 (SLS_cg hs g1 g2) hP hD hS
set_option maxHeartbeats 4000000 in
set_option maxRecDepth 100000 in
theorem lc_write (Z : CX p s m c b L xs G) (hI : ALL V M) (hs : SLS G h Y M) (hP : va_P G.1 vwCl (W_Fd G a h Y V ++ W_Md G ca M) H) (hD : va_D (AA s) (W_Fd G a h Y V ++ W_Md G ca M)) (hS : va_S (AA s) s.heap H locs) (hl : lv_has ls 4 [(0, .ref b), (1, .ref (a 0)), (2, .ref (ca 0)), (3, .int (nI i))]) (hi : i + 4 ≤ L) (hL : L ≤ 2048) (hf : cells + 20 ≤ room_1.cells ∧ slots + 2248 ≤ room_1.slots) (go : GO p l e s m below meth c b G a ca h ls cells slots Q) :
    W p l e room_1 s m #[Value.ref b] below meth c H locs cells slots Q (F0 m 157 ls []) := by
  obtain ⟨hx, hb, hml, hown, hts, hX, hbl, hK, hN⟩ := id Z
  have hf0 : cells ≤ room_1.cells ∧ slots ≤ room_1.slots := ⟨by have := hf.1; omega, by have := hf.2; omega⟩
  obtain ⟨r, V1, M1, e1, e2, hI1, g1, g2⟩ := cs_write hI (xs (i + 1)) (xs (i + 2)) (xs (i + 3))
  refine lv_aload_n hx hb d_law_157 rfl (lv_at hl 1 rfl) ?_
  refine lw_ld (kk := 1) Z hS (lv_at hl 0 rfl) (lv_at hl 3 rfl) rfl (by omega) hL d_law_158 d_law_159 d_law_160 d_law_161 d_law_162 ?_
  refine lw_ld (kk := 2) Z hS (lv_at hl 0 rfl) (lv_at hl 3 rfl) rfl (by omega) hL d_law_163 d_law_164 d_law_165 d_law_166 d_law_167 ?_
  refine lw_ld (kk := 3) Z hS (lv_at hl 0 rfl) (lv_at hl 3 rfl) rfl (by omega) hL d_law_168 d_law_169 d_law_170 d_law_171 d_law_172 ?_
  refine kFd (index := 18) Z hP hD hS (t_Fd_write l G a h Y (xs (i + 1)) (xs (i + 2)) (xs (i + 3)) V (r, V1) e1) m_Fd_write k_302 ⟨Nat.le_of_ble_eq_true rfl, Nat.le_of_ble_eq_true rfl⟩ rfl rfl (Nat.le_of_ble_eq_true rfl) hl.1 d_law_173 hf0 (fun H locs hP hD hS => ?_)
  refine lv_aload_n hx hb d_law_176 rfl (lv_at hl 2 rfl) ?_
  refine lw_ld (kk := 1) Z hS (lv_at hl 0 rfl) (lv_at hl 3 rfl) rfl (by omega) hL d_law_177 d_law_178 d_law_179 d_law_180 d_law_181 ?_
  refine lw_ld (kk := 2) Z hS (lv_at hl 0 rfl) (lv_at hl 3 rfl) rfl (by omega) hL d_law_182 d_law_183 d_law_184 d_law_185 d_law_186 ?_
  refine lw_ld (kk := 3) Z hS (lv_at hl 0 rfl) (lv_at hl 3 rfl) rfl (by omega) hL d_law_187 d_law_188 d_law_189 d_law_190 d_law_191 ?_
  refine kMd (index := 22) Z hP hD hS (t_Md_write l G ca (xs (i + 1)) (xs (i + 2)) (xs (i + 3)) M (r, M1) e2) m_Md_write k_808 ⟨Nat.le_of_ble_eq_true rfl, Nat.le_of_ble_eq_true rfl⟩ rfl rfl (Nat.le_of_ble_eq_true rfl) hl.1 d_law_192 hf0 (fun H locs hP hD hS => ?_)
  refine lv_icmp_eq (tgt := 696) hx hb d_law_195 (by decide) (fun _ => ?_) (fun z => absurd rfl z)
  refine W.widen (k := cells + 20) (n := slots + 2248) (Nat.le_add_right _ _) (Nat.le_add_right _ _) ?_
  exact go Y V1 M1 H locs hI1 (SLS_cg hs g1 g2) hP hD hS
set_option maxHeartbeats 4000000 in
set_option maxRecDepth 100000 in
theorem lc_finish (Z : CX p s m c b L xs G) (hI : ALL V M) (hs : SLS G h Y M) (hP : va_P G.1 vwCl (W_Fd G a h Y V ++ W_Md G ca M) H) (hD : va_D (AA s) (W_Fd G a h Y V ++ W_Md G ca M)) (hS : va_S (AA s) s.heap H locs) (hl : lv_has ls 4 [(0, .ref b), (1, .ref (a 0)), (2, .ref (ca 0)), (3, .int (nI i))]) (hi : i + 4 ≤ L) (hL : L ≤ 2048) (hf : cells + 20 ≤ room_1.cells ∧ slots + 2248 ≤ room_1.slots) (go : GO p l e s m below meth c b G a ca h ls cells slots Q) :
    W p l e room_1 s m #[Value.ref b] below meth c H locs cells slots Q (F0 m 200 ls []) := by
  obtain ⟨hx, hb, hml, hown, hts, hX, hbl, hK, hN⟩ := id Z
  have hf0 : cells ≤ room_1.cells ∧ slots ≤ room_1.slots := ⟨by have := hf.1; omega, by have := hf.2; omega⟩
  obtain ⟨r, V1, M1, e1, e2, hI1, g1, g2⟩ := cs_finish hI (xs (i + 1))
  refine lv_aload_n hx hb d_law_200 rfl (lv_at hl 1 rfl) ?_
  refine lw_ld (kk := 1) Z hS (lv_at hl 0 rfl) (lv_at hl 3 rfl) rfl (by omega) hL d_law_201 d_law_202 d_law_203 d_law_204 d_law_205 ?_
  refine kFd (index := 23) Z hP hD hS (t_Fd_finish l G a h Y (xs (i + 1)) V (r, V1) e1) m_Fd_finish k_358 ⟨Nat.le_of_ble_eq_true rfl, Nat.le_of_ble_eq_true rfl⟩ rfl rfl (Nat.le_of_ble_eq_true rfl) hl.1 d_law_206 hf0 (fun H locs hP hD hS => ?_)
  refine lv_aload_n hx hb d_law_209 rfl (lv_at hl 2 rfl) ?_
  refine lw_ld (kk := 1) Z hS (lv_at hl 0 rfl) (lv_at hl 3 rfl) rfl (by omega) hL d_law_210 d_law_211 d_law_212 d_law_213 d_law_214 ?_
  refine kMd (index := 27) Z hP hD hS (t_Md_finish l G ca (xs (i + 1)) M (r, M1) e2) m_Md_finish k_844 ⟨Nat.le_of_ble_eq_true rfl, Nat.le_of_ble_eq_true rfl⟩ rfl rfl (Nat.le_of_ble_eq_true rfl) hl.1 d_law_215 hf0 (fun H locs hP hD hS => ?_)
  refine lv_icmp_eq (tgt := 696) hx hb d_law_218 (by decide) (fun _ => ?_) (fun z => absurd rfl z)
  refine W.widen (k := cells + 20) (n := slots + 2248) (Nat.le_add_right _ _) (Nat.le_add_right _ _) ?_
  exact go Y V1 M1 H locs hI1 (SLS_cg hs g1 g2) hP hD hS
set_option maxHeartbeats 4000000 in
set_option maxRecDepth 100000 in
theorem lc_tear (Z : CX p s m c b L xs G) (hI : ALL V M) (hs : SLS G h Y M) (hP : va_P G.1 vwCl (W_Fd G a h Y V ++ W_Md G ca M) H) (hD : va_D (AA s) (W_Fd G a h Y V ++ W_Md G ca M)) (hS : va_S (AA s) s.heap H locs) (hl : lv_has ls 4 [(0, .ref b), (1, .ref (a 0)), (2, .ref (ca 0)), (3, .int (nI i))]) (hi : i + 4 ≤ L) (hL : L ≤ 2048) (hf : cells + 20 ≤ room_1.cells ∧ slots + 2248 ≤ room_1.slots) (go : GO p l e s m below meth c b G a ca h ls cells slots Q) :
    W p l e room_1 s m #[Value.ref b] below meth c H locs cells slots Q (F0 m 223 ls []) := by
  obtain ⟨hx, hb, hml, hown, hts, hX, hbl, hK, hN⟩ := id Z
  have hf0 : cells ≤ room_1.cells ∧ slots ≤ room_1.slots := ⟨by have := hf.1; omega, by have := hf.2; omega⟩
  obtain ⟨r, V1, M1, e1, e2, hI1, g1, g2⟩ := cs_tear hI (xs (i + 1))
  refine lv_aload_n hx hb d_law_223 rfl (lv_at hl 1 rfl) ?_
  refine lw_ld (kk := 1) Z hS (lv_at hl 0 rfl) (lv_at hl 3 rfl) rfl (by omega) hL d_law_224 d_law_225 d_law_226 d_law_227 d_law_228 ?_
  refine kFd (index := 28) Z hP hD hS (t_Fd_tear l G a h Y (xs (i + 1)) V (r, V1) e1) m_Fd_tear k_373 ⟨Nat.le_of_ble_eq_true rfl, Nat.le_of_ble_eq_true rfl⟩ rfl rfl (Nat.le_of_ble_eq_true rfl) hl.1 d_law_229 hf0 (fun H locs hP hD hS => ?_)
  refine lv_aload_n hx hb d_law_232 rfl (lv_at hl 2 rfl) ?_
  refine lw_ld (kk := 1) Z hS (lv_at hl 0 rfl) (lv_at hl 3 rfl) rfl (by omega) hL d_law_233 d_law_234 d_law_235 d_law_236 d_law_237 ?_
  refine kMd (index := 31) Z hP hD hS (t_Md_tear l G ca (xs (i + 1)) M (r, M1) e2) m_Md_tear k_857 ⟨Nat.le_of_ble_eq_true rfl, Nat.le_of_ble_eq_true rfl⟩ rfl rfl (Nat.le_of_ble_eq_true rfl) hl.1 d_law_238 hf0 (fun H locs hP hD hS => ?_)
  refine lv_icmp_eq (tgt := 696) hx hb d_law_241 (by decide) (fun _ => ?_) (fun z => absurd rfl z)
  refine W.widen (k := cells + 20) (n := slots + 2248) (Nat.le_add_right _ _) (Nat.le_add_right _ _) ?_
  exact go Y V1 M1 H locs hI1 (SLS_cg hs g1 g2) hP hD hS
set_option maxHeartbeats 4000000 in
set_option maxRecDepth 100000 in
theorem lc_save (Z : CX p s m c b L xs G) (hI : ALL V M) (hs : SLS G h Y M) (hP : va_P G.1 vwCl (W_Fd G a h Y V ++ W_Md G ca M) H) (hD : va_D (AA s) (W_Fd G a h Y V ++ W_Md G ca M)) (hS : va_S (AA s) s.heap H locs) (hl : lv_has ls 4 [(0, .ref b), (1, .ref (a 0)), (2, .ref (ca 0)), (3, .int (nI i))]) (hi : i + 4 ≤ L) (hL : L ≤ 2048) (hf : cells + 20 ≤ room_1.cells ∧ slots + 2248 ≤ room_1.slots) (go : GO p l e s m below meth c b G a ca h ls cells slots Q) :
    W p l e room_1 s m #[Value.ref b] below meth c H locs cells slots Q (F0 m 246 ls []) := by
  obtain ⟨hx, hb, hml, hown, hts, hX, hbl, hK, hN⟩ := id Z
  have hf0 : cells ≤ room_1.cells ∧ slots ≤ room_1.slots := ⟨by have := hf.1; omega, by have := hf.2; omega⟩
  obtain ⟨r, V1, M1, e1, e2, hI1, g1, g2⟩ := cs_save hI (xs (i + 1))
  refine lv_aload_n hx hb d_law_246 rfl (lv_at hl 1 rfl) ?_
  refine lw_ld (kk := 1) Z hS (lv_at hl 0 rfl) (lv_at hl 3 rfl) rfl (by omega) hL d_law_247 d_law_248 d_law_249 d_law_250 d_law_251 ?_
  refine kFd (index := 32) Z hP hD hS (t_Fd_save l G a h Y (xs (i + 1)) V (r, V1) e1) m_Fd_save k_409 ⟨Nat.le_of_ble_eq_true rfl, Nat.le_of_ble_eq_true rfl⟩ rfl rfl (Nat.le_of_ble_eq_true rfl) hl.1 d_law_252 hf0 (fun H locs hP hD hS => ?_)
  refine lv_aload_n hx hb d_law_255 rfl (lv_at hl 2 rfl) ?_
  refine lw_ld (kk := 1) Z hS (lv_at hl 0 rfl) (lv_at hl 3 rfl) rfl (by omega) hL d_law_256 d_law_257 d_law_258 d_law_259 d_law_260 ?_
  refine kMd (index := 35) Z hP hD hS (t_Md_save l G ca (xs (i + 1)) M (r, M1) e2) m_Md_save k_876 ⟨Nat.le_of_ble_eq_true rfl, Nat.le_of_ble_eq_true rfl⟩ rfl rfl (Nat.le_of_ble_eq_true rfl) hl.1 d_law_261 hf0 (fun H locs hP hD hS => ?_)
  refine lv_icmp_eq (tgt := 696) hx hb d_law_264 (by decide) (fun _ => ?_) (fun z => absurd rfl z)
  refine W.widen (k := cells + 20) (n := slots + 2248) (Nat.le_add_right _ _) (Nat.le_add_right _ _) ?_
  exact go Y V1 M1 H locs hI1 (SLS_cg hs g1 g2) hP hD hS
set_option maxHeartbeats 4000000 in
set_option maxRecDepth 100000 in
theorem lc_putAway (Z : CX p s m c b L xs G) (hI : ALL V M) (hs : SLS G h Y M) (hP : va_P G.1 vwCl (W_Fd G a h Y V ++ W_Md G ca M) H) (hD : va_D (AA s) (W_Fd G a h Y V ++ W_Md G ca M)) (hS : va_S (AA s) s.heap H locs) (hl : lv_has ls 4 [(0, .ref b), (1, .ref (a 0)), (2, .ref (ca 0)), (3, .int (nI i))]) (hi : i + 4 ≤ L) (hL : L ≤ 2048) (hf : cells + 20 ≤ room_1.cells ∧ slots + 2248 ≤ room_1.slots) (go : GO p l e s m below meth c b G a ca h ls cells slots Q) :
    W p l e room_1 s m #[Value.ref b] below meth c H locs cells slots Q (F0 m 269 ls []) := by
  obtain ⟨hx, hb, hml, hown, hts, hX, hbl, hK, hN⟩ := id Z
  have hf0 : cells ≤ room_1.cells ∧ slots ≤ room_1.slots := ⟨by have := hf.1; omega, by have := hf.2; omega⟩
  obtain ⟨r, V1, M1, e1, e2, hI1, g1, g2⟩ := cs_putAway hI (xs (i + 1))
  refine lv_aload_n hx hb d_law_269 rfl (lv_at hl 1 rfl) ?_
  refine lw_ld (kk := 1) Z hS (lv_at hl 0 rfl) (lv_at hl 3 rfl) rfl (by omega) hL d_law_270 d_law_271 d_law_272 d_law_273 d_law_274 ?_
  refine kFd (index := 36) Z hP hD hS (t_Fd_putAway l G a h Y (xs (i + 1)) V (r, V1) e1) m_Fd_putAway k_418 ⟨Nat.le_of_ble_eq_true rfl, Nat.le_of_ble_eq_true rfl⟩ rfl rfl (Nat.le_of_ble_eq_true rfl) hl.1 d_law_275 hf0 (fun H locs hP hD hS => ?_)
  refine lv_aload_n hx hb d_law_278 rfl (lv_at hl 2 rfl) ?_
  refine lw_ld (kk := 1) Z hS (lv_at hl 0 rfl) (lv_at hl 3 rfl) rfl (by omega) hL d_law_279 d_law_280 d_law_281 d_law_282 d_law_283 ?_
  refine kMd (index := 39) Z hP hD hS (t_Md_putAway l G ca (xs (i + 1)) M (r, M1) e2) m_Md_putAway k_883 ⟨Nat.le_of_ble_eq_true rfl, Nat.le_of_ble_eq_true rfl⟩ rfl rfl (Nat.le_of_ble_eq_true rfl) hl.1 d_law_284 hf0 (fun H locs hP hD hS => ?_)
  refine lv_icmp_eq (tgt := 696) hx hb d_law_287 (by decide) (fun _ => ?_) (fun z => absurd rfl z)
  refine W.widen (k := cells + 20) (n := slots + 2248) (Nat.le_add_right _ _) (Nat.le_add_right _ _) ?_
  exact go Y V1 M1 H locs hI1 (SLS_cg hs g1 g2) hP hD hS
end LC
