/-! THE CLAIM OUT OF ONE WALK OF THE LAW'S BODY. Your part is whole_start (and what it stands on); all else here is the same for every law, but numbers. -/
def R_law : String := "FloodDiaryLaw"
def lw_P (b : Addr) (xs : List Int32) (args : Array Value) (s : State) : Prop := args = #[.ref b] ∧ s.IntsAt b xs ∧ xs.length ≤ 2048 ∧ (Jvm.Cond.and given_1 narrow_1).before args s = true
def lw_Q (_ : Array Value) (s : State) (o : Outcome) (t : State) : Prop := o = .returned (some (.int 1)) ∧ Framed s o t [] 1200000 5502250
def lw_Z (below : List Frame) (a : Array Value) (s : State) : State → Prop := fun t => ∃ o, t.status = .running ∧ Ended t below o ∧ lw_Q a s o t
/-- the law's own end, with 1 on the stack, nothing written that was there before, its room as the claim has it -/
theorem lw_ret {p : Program} {l : Launch} {e : Env} {s : State} {m : MethodId} {below : List Frame} {meth : Method} {c : Code} {b : Nat} (hx : p.tables.exec = Jvm.exec) (hb : c.code = code) (hr : meth.sig.returnType = ret) (hlocks : meth.locks = false) {pc : Nat} {H : Heap} {ls : Array Slot} (hdg : decode code pc = .ok (.ireturn, 1)) : W p l e room_1 s m #[Value.ref b] below meth c H [] 1200000 5502250 (lw_Z below #[Value.ref b] s) (F0 m pc ls [.int 1]) := by
  intro T hT X
  obtain ⟨fs, hret, hrun, hended, hW, hframe⟩ := X.leave (v := some (.int 1)) (hlocks := hlocks) (fun h => by rw [hr] at h; cases h)
  have hmeth' : T.vm.method? m = some meth := X.method'
  refine ⟨T.setFrames fs, ?_, .returned (some (.int 1)), hrun, hended, rfl, ⟨_, rfl⟩, hW, hframe⟩
  jvm_step X.here [X.here.top, hx, hb, hdg, hmeth', hr, ret, narrow_b1]
  (try refine ⟨rfl, ?_⟩); (try refine ⟨rfl, ?_⟩)
  first | (intro acts; rw [hret _ acts rfl rfl rfl]) | rw [hret _ _ rfl rfl rfl]
  exact Steps.refl _
/-- what holds at the law's entry: the machine, the code, the tables' words (any of lw_tbl by 'hts w (by decide +kernel)'), the script of L ints xs at the cell b, what the Statement gives of the start (any of its parts by flat_of_before) -/
def lw_At (p : Program) (s : State) (m : MethodId) (meth : Method) (c : Code) (b L : Nat) (xs : Nat → Int32) : Prop :=
  p.tables.exec = Jvm.exec ∧ c.code = code ∧ meth.sig.returnType = ret ∧ c.maxLocals = 4 ∧ s.vm.findClass R_law = some m.cls ∧ (∀ w ∈ lw_tbl, w.before #[Value.ref b] s = true) ∧ va_X b L xs s s.heap ∧ b < s.heap.size ∧ meth.locks = false ∧ (Jvm.Cond.and given_1 narrow_1).before #[Value.ref b] s = true
/-! ===== the rows of the law ===== -/
abbrev AA (s : State) : Nat → Prop := fun q : Nat => s.heap.size ≤ q
def CX (p : Program) (s : State) (m : MethodId) (c : Code) (b L : Nat) (xs : Nat → Int32) (G : GG) : Prop :=
  p.tables.exec = Jvm.exec ∧ c.code = code ∧ c.maxLocals = 4 ∧ s.vm.findClass "FloodDiaryLaw" = some m.cls ∧ (∀ q ∈ TB, q.before #[Value.ref b] s = true) ∧ va_X b L xs s s.heap ∧ b < s.heap.size ∧ va_K G.1 vwCl (tysG G) s ∧ NW s
section LR
variable {p : Program} {l : Launch} {e : Env} {R : Room} {s : State} {m : MethodId} {args : Array Value} {below : List Frame} {meth : Method} {c : Code} {H : Heap} {locs : List Loc} {cells slots : Nat} {Q : State → Prop}
variable {cc : ByteArray} {pc : Nat} {ls : Array Slot} {G : GG} {A : Nat → Prop} {H0 : Heap} {own : String} {nL : Nat}
/-- a call that may make cells and answers an int -/
theorem kcAi {S : Type} {W0 : S → va_W} {P : S → Prop} (hx : p.tables.exec = Jvm.exec) (hb : c.code = cc) (hml : c.maxLocals = nL) (hown : s.vm.findClass own = some m.cls) (hts : ∀ q ∈ TB, q.before args s = true) (hK : va_K G.1 vwCl (tysG G) s) (hN : NW s) (hA : ∀ q, H0.size ≤ q → A q)
    {ws wc wr : va_W} (hP : va_P G.1 vwCl ws H) (hD : va_D A ws) (hS : va_S A H0 H locs)
    {y : MethodName} {bytes : ByteArray} {maxL n index : Nat} {rt : Option FieldType} {rm : Room} {C : String} {b : Nat} {As rest st0 : List Value} {r : Int32}
    (hM : MAi l G y bytes maxL rt rm wc (.ref b :: As) W0 P r) (F : mfV y bytes maxL rt C n) (hl : Cond.methodLink own index y ∈ TB) (hR : rm.frames + 1 ≤ R.frames ∧ 8 + (maxL + 11) + rm.locals ≤ R.locals) (p1 : ws.Perm (wc ++ wr))
    (ci k0 : Nat) {q : vw_C} (hq : vwCl[ci]? = some q) (hqC : q.1 = C) {fs : List Value} (he : wc[k0]? = some (b, .inr (ci, fs))) (hst : st0 = As.reverse ++ .ref b :: rest) (hn : As.length = n) (hw : (rest.map fun v => v.category).sum ≤ 8) (hls : ls.size = nL) (hdg : decode cc pc = .ok (.invokevirtual index, 3)) (hf : cells + rm.cells ≤ R.cells ∧ slots + rm.slots ≤ R.slots)
    (kk : ∀ (u : S) (H1 : Heap) (locs1 : List Loc), P u → va_P G.1 vwCl (W0 u ++ wr) H1 → va_D A (W0 u ++ wr) → va_S A H0 H1 locs1 → W p l e R s m args below meth c H1 locs1 (cells + rm.cells) (slots + rm.slots) Q (F0 m (pc + 3) ls (.int r :: rest))) :
    W p l e R s m args below meth c H locs cells slots Q (F0 m pc ls st0) := by
  have hPc := vP_left (vP_perm p1 hP)
  have hDc := vD_left (vD_perm p1 hD)
  obtain ⟨f1, f2, f3, f4, f5, f6, f7, f8⟩ := F
  have hrun := va_runV (R := R) (H := H) (locs := locs) (cells := cells) (slots := slots) (meth := meth) (e := e) (below := below) (C := C) (b := b) (As := As) (rest := rest) (index := index) (g := F0 m pc ls st0) ⟨hx, hb, hml, hown, hts⟩ (hM H.size)
    (⟨callB_of n hts (WS_good f4) rfl rfl rfl (hts _ (f5 ▸ f3)) (hts _ hl) ⟨f6, f7, f8⟩ hR, hts _ f1, hts _ f2⟩ : CallW R s args own C index y bytes maxL rt (WS y bytes maxL rt) rm rm.cells rm.slots n)
    ⟨(kPre hK hN hPc hDc).1, by have h := va_recv hK hPc hq he; rw [hqC] at h; exact h, (kPre hK hN hPc hDc).2⟩ rfl hn hls hst (lv_room hw) hdg hf
  exact va_calli hrun hS (fun q _ h => fr_free hD p1 hS hA q h) (fr_free hD p1 hS hA) (fun r2 u t H1 locs1 ht hvm hw1 hB hz hk hS1 => by
    obtain ⟨hP1, hD1⟩ := hB
    obtain ⟨hr2, hw2⟩ := hw1
    rw [ht] at hP1
    obtain ⟨hP2, hD2⟩ := fr_join (ws' := W0 u ++ wr) hP hD p1 (List.Perm.refl _) hk (fr_free hD p1 hS hA) hP1 hD1
    rw [hr2]
    exact kk u H1 locs1 hw2 hP2 hD2 hS1)
end LR
section LS
variable {p : Program} {l : Launch} {e : Env} {s : State} {m : MethodId} {below : List Frame} {meth : Method} {c : Code} {H : Heap} {locs : List Loc} {cells slots : Nat} {Q : State → Prop}
variable {b L i : Nat} {xs : Nat → Int32} {G : GG} {a ca : Nat → Nat} {h : Nat} {Y : va_W} {V : V_Fd} {M : V_Md} {ls : Array Slot} {pc : Nat}
theorem lw_ld {k : Int} {kk : Nat} {rest : List Value} (Z : CX p s m c b L xs G) (hS : va_S (AA s) s.heap H locs) (h0 : ls[0]? = some (.val (.ref b))) (h3 : ls[3]? = some (.val (.int (nI i)))) (ek : Int32.ofInt k = nI kk) (hj : i + kk < L) (hL : L ≤ 2048)
    (d0 : decode code pc = .ok (.aload_n 0, 1)) (d1 : decode code (pc + 1) = .ok (.iload_n 3, 1)) (d2 : decode code (pc + 2) = .ok (.iconst k, 1)) (d3 : decode code (pc + 3) = .ok (.iadd, 1)) (d4 : decode code (pc + 4) = .ok (.iaload, 1))
    (go : W p l e room_1 s m #[Value.ref b] below meth c H locs cells slots Q (F0 m (pc + 5) ls (.int (xs (i + kk)) :: rest))) : W p l e room_1 s m #[Value.ref b] below meth c H locs cells slots Q (F0 m pc ls rest) := by
  obtain ⟨hx, hb, hml, hown, hts, hX, hbl, hK, hN⟩ := Z
  refine lv_aload_n hx hb d0 rfl h0 ?_
  refine lv_iload_n hx hb d1 rfl h3 ?_
  refine lv_iconst (v := nI kk) hx hb d2 ek ?_
  refine lv_iadd hx hb d3 ?_
  rw [i_add]
  refine va_sld hx hb hX hbl (A := AA s) (Nat.not_le.mpr hbl) hS (vp_in_nI hj (by omega)) d4 ?_
  rw [i_cl (by omega)]
  exact go
theorem kFd {y : MethodName} {bytes : ByteArray} {maxL n index f lo : Nat} {As rest st0 : List Value} {V1 : V_Fd} {r : Int32} (Z : CX p s m c b L xs G) (hP : va_P G.1 vwCl (W_Fd G a h Y V ++ W_Md G ca M) H) (hD : va_D (AA s) (W_Fd G a h Y V ++ W_Md G ca M)) (hS : va_S (AA s) s.heap H locs)
    (hM : MI l G y bytes maxL (some .int) (rmk f lo) (W_Fd G a h Y V) (.ref (a 0) :: As) (W_Fd G a h Y V1) r) (F : mfV y bytes maxL (some .int) "FloodDiary" n) (hl : Cond.methodLink "FloodDiaryLaw" index y ∈ TB) (hR : f + 1 ≤ room_1.frames ∧ 8 + (maxL + 11) + lo ≤ room_1.locals)
    (hst : st0 = As.reverse ++ .ref (a 0) :: rest) (hn : As.length = n) (hw : (rest.map fun v => v.category).sum ≤ 8) (hls : ls.size = 4) (hdg : decode code pc = .ok (.invokevirtual index, 3)) (hf : cells ≤ room_1.cells ∧ slots ≤ room_1.slots)
    (kk : ∀ (H1 : Heap) (locs1 : List Loc), va_P G.1 vwCl (W_Fd G a h Y V1 ++ W_Md G ca M) H1 → va_D (AA s) (W_Fd G a h Y V1 ++ W_Md G ca M) → va_S (AA s) s.heap H1 locs1 → W p l e room_1 s m #[Value.ref b] below meth c H1 locs1 cells slots Q (F0 m (pc + 3) ls (.int r :: rest))) :
    W p l e room_1 s m #[Value.ref b] below meth c H locs cells slots Q (F0 m pc ls st0) := by
  obtain ⟨hx, hb, hml, hown, hts, hX, hbl, hK, hN⟩ := Z
  exact kcV (cc := code) (own := "FloodDiaryLaw") (index := index) (wc := W_Fd G a h Y V) (wr := W_Md G ca M) (wc' := W_Fd G a h Y V1) (ws' := W_Fd G a h Y V1 ++ W_Md G ca M) hx hb hml hown hts hK hN (fun _ z => z) hP hD hS hM F hl hR (List.Perm.refl _) (List.Perm.refl _) 8 0 rfl rfl rfl hst hn hw hls hdg hf kk
theorem kMd {y : MethodName} {bytes : ByteArray} {maxL n index f lo : Nat} {As rest st0 : List Value} {M1 : V_Md} {r : Int32} (Z : CX p s m c b L xs G) (hP : va_P G.1 vwCl (W_Fd G a h Y V ++ W_Md G ca M) H) (hD : va_D (AA s) (W_Fd G a h Y V ++ W_Md G ca M)) (hS : va_S (AA s) s.heap H locs)
    (hM : MI l G y bytes maxL (some .int) (rmk f lo) (W_Md G ca M) (.ref (ca 0) :: As) (W_Md G ca M1) r) (F : mfV y bytes maxL (some .int) "FloodDiaryModel" n) (hl : Cond.methodLink "FloodDiaryLaw" index y ∈ TB) (hR : f + 1 ≤ room_1.frames ∧ 8 + (maxL + 11) + lo ≤ room_1.locals)
    (hst : st0 = As.reverse ++ .ref (ca 0) :: rest) (hn : As.length = n) (hw : (rest.map fun v => v.category).sum ≤ 8) (hls : ls.size = 4) (hdg : decode code pc = .ok (.invokevirtual index, 3)) (hf : cells ≤ room_1.cells ∧ slots ≤ room_1.slots)
    (kk : ∀ (H1 : Heap) (locs1 : List Loc), va_P G.1 vwCl (W_Fd G a h Y V ++ W_Md G ca M1) H1 → va_D (AA s) (W_Fd G a h Y V ++ W_Md G ca M1) → va_S (AA s) s.heap H1 locs1 → W p l e room_1 s m #[Value.ref b] below meth c H1 locs1 cells slots Q (F0 m (pc + 3) ls (.int r :: rest))) :
    W p l e room_1 s m #[Value.ref b] below meth c H locs cells slots Q (F0 m pc ls st0) := by
  obtain ⟨hx, hb, hml, hown, hts, hX, hbl, hK, hN⟩ := Z
  exact kcV (cc := code) (own := "FloodDiaryLaw") (index := index) (wc := W_Md G ca M) (wr := W_Fd G a h Y V) (wc' := W_Md G ca M1) (ws' := W_Fd G a h Y V ++ W_Md G ca M1) hx hb hml hown hts hK hN (fun _ z => z) hP hD hS hM F hl hR List.perm_append_comm List.perm_append_comm 9 0 rfl rfl rfl hst hn hw hls hdg hf kk
theorem kFdA {y : MethodName} {bytes : ByteArray} {maxL n index : Nat} {rm : Room} {As rest st0 : List Value} {W0 : (Nat → Nat) → va_W} {PP : (Nat → Nat) → Prop} {r : Int32} (Z : CX p s m c b L xs G) (hP : va_P G.1 vwCl (W_Fd G a h Y V ++ W_Md G ca M) H) (hD : va_D (AA s) (W_Fd G a h Y V ++ W_Md G ca M)) (hS : va_S (AA s) s.heap H locs)
    (hM : MAi (S := Nat → Nat) l G y bytes maxL (some .int) rm (W_Fd G a h Y V) (.ref (a 0) :: As) W0 PP r) (F : mfV y bytes maxL (some .int) "FloodDiary" n) (hl : Cond.methodLink "FloodDiaryLaw" index y ∈ TB) (hR : rm.frames + 1 ≤ room_1.frames ∧ 8 + (maxL + 11) + rm.locals ≤ room_1.locals)
    (hst : st0 = As.reverse ++ .ref (a 0) :: rest) (hn : As.length = n) (hw : (rest.map fun v => v.category).sum ≤ 8) (hls : ls.size = 4) (hdg : decode code pc = .ok (.invokevirtual index, 3)) (hf : cells + rm.cells ≤ room_1.cells ∧ slots + rm.slots ≤ room_1.slots)
    (kk : ∀ (u : Nat → Nat) (H1 : Heap) (locs1 : List Loc), PP u → va_P G.1 vwCl (W0 u ++ W_Md G ca M) H1 → va_D (AA s) (W0 u ++ W_Md G ca M) → va_S (AA s) s.heap H1 locs1 → W p l e room_1 s m #[Value.ref b] below meth c H1 locs1 (cells + rm.cells) (slots + rm.slots) Q (F0 m (pc + 3) ls (.int r :: rest))) :
    W p l e room_1 s m #[Value.ref b] below meth c H locs cells slots Q (F0 m pc ls st0) := by
  obtain ⟨hx, hb, hml, hown, hts, hX, hbl, hK, hN⟩ := Z
  exact kcAi (cc := code) (own := "FloodDiaryLaw") (index := index) (wc := W_Fd G a h Y V) (wr := W_Md G ca M) hx hb hml hown hts hK hN (fun _ z => z) hP hD hS hM F hl hR (List.Perm.refl _) 8 0 rfl rfl rfl hst hn hw hls hdg hf kk
end LS
abbrev GO (p : Program) (l : Launch) (e : Env) (s : State) (m : MethodId) (below : List Frame) (meth : Method) (c : Code) (b : Nat) (G : GG) (a ca : Nat → Nat) (h : Nat) (ls : Array Slot) (cells slots : Nat) (Q : State → Prop) : Prop :=
  ∀ (Y : va_W) (V : V_Fd) (M : V_Md) (H : Heap) (locs : List Loc), ALL V M → SLS G h Y M → va_P G.1 vwCl (W_Fd G a h Y V ++ W_Md G ca M) H → va_D (AA s) (W_Fd G a h Y V ++ W_Md G ca M) → va_S (AA s) s.heap H locs → W p l e room_1 s m #[Value.ref b] below meth c H locs (cells + 20) (slots + 2248) Q (F0 m 696 ls [])
theorem vin0 : vp_in (0 : Int32) 2 := by
  show vp_in (nI 0) 2
  exact vp_in_nI (by omega) (by omega)
theorem vin1 : vp_in (1 : Int32) 2 := by
  show vp_in (nI 1) 2
  exact vp_in_nI (by omega) (by omega)
theorem cs_fault {V : V_Fd} {M : V_Md} (h : ALL V M) : DONE M (f_Fd_fault V) (f_Md_fault M) := s_fault h
theorem cs_carryOut {V : V_Fd} {M : V_Md} (h : ALL V M) : DONE M (f_Fd_carryOut V) (f_Md_carryOut M) := s_carryOut h
