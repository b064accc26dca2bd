/-! ===== texts: their length and signs, by the JDK's own code (names printed by wip/whole/mkstr.py) ===== -/
abbrev jy_len : MethodName := ⟨"java/lang/String", "length", "()I"⟩
abbrev jb_len : ByteArray := prog_14_method_54_code
set_option maxRecDepth 20000 in
theorem jc_len : Cond.code jy_len jb_len 1 (some .int) ∈ GW := List.mem_filter.mpr ⟨List.mem_append_right _ (List.mem_append_right _ (List.mem_append_right _ (List.mem_append_left _ (List.mem_of_getElem? (i := 85) rfl)))), rfl⟩
theorem jd_len_0 : decode jb_len 0 = .ok (.aload_n 0, 1) := by decide +kernel
theorem jd_len_1 : decode jb_len 1 = .ok (.getfield 9, 3) := by decide +kernel
theorem jd_len_4 : decode jb_len 4 = .ok (.arraylength, 1) := by decide +kernel
theorem jd_len_5 : decode jb_len 5 = .ok (.aload_n 0, 1) := by decide +kernel
theorem jd_len_6 : decode jb_len 6 = .ok (.invokevirtual 335, 3) := by decide +kernel
theorem jd_len_9 : decode jb_len 9 = .ok (.ishr, 1) := by decide +kernel
theorem jd_len_10 : decode jb_len 10 = .ok (.ireturn, 1) := by decide +kernel
abbrev jy_cha : MethodName := ⟨"java/lang/String", "charAt", "(I)C"⟩
abbrev jb_cha : ByteArray := prog_14_method_56_code
set_option maxRecDepth 20000 in
theorem jc_cha : Cond.code jy_cha jb_cha 2 (some .char) ∈ GW := List.mem_filter.mpr ⟨List.mem_append_right _ (List.mem_append_right _ (List.mem_append_right _ (List.mem_append_left _ (List.mem_of_getElem? (i := 95) rfl)))), rfl⟩
theorem jd_cha_0 : decode jb_cha 0 = .ok (.aload_n 0, 1) := by decide +kernel
theorem jd_cha_1 : decode jb_cha 1 = .ok (.invokevirtual 492, 3) := by decide +kernel
theorem jd_cha_4 : decode jb_cha 4 = .ok (.ifCond .eq 12, 3) := by decide +kernel
theorem jd_cha_7 : decode jb_cha 7 = .ok (.aload_n 0, 1) := by decide +kernel
theorem jd_cha_8 : decode jb_cha 8 = .ok (.getfield 9, 3) := by decide +kernel
theorem jd_cha_11 : decode jb_cha 11 = .ok (.iload_n 1, 1) := by decide +kernel
theorem jd_cha_12 : decode jb_cha 12 = .ok (.invokestatic 495, 3) := by decide +kernel
theorem jd_cha_15 : decode jb_cha 15 = .ok (.ireturn, 1) := by decide +kernel
theorem jd_cha_16 : decode jb_cha 16 = .ok (.aload_n 0, 1) := by decide +kernel
theorem jd_cha_17 : decode jb_cha 17 = .ok (.getfield 9, 3) := by decide +kernel
theorem jd_cha_20 : decode jb_cha 20 = .ok (.iload_n 1, 1) := by decide +kernel
theorem jd_cha_21 : decode jb_cha 21 = .ok (.invokestatic 498, 3) := by decide +kernel
theorem jd_cha_24 : decode jb_cha 24 = .ok (.ireturn, 1) := by decide +kernel
abbrev jy_cod : MethodName := ⟨"java/lang/String", "coder", "()B"⟩
abbrev jb_cod : ByteArray := prog_14_method_152_code
set_option maxRecDepth 20000 in
theorem jc_cod : Cond.code jy_cod jb_cod 1 (some .byte) ∈ GW := List.mem_filter.mpr ⟨List.mem_append_right _ (List.mem_append_right _ (List.mem_append_right _ (List.mem_append_left _ (List.mem_of_getElem? (i := 89) rfl)))), rfl⟩
theorem jd_cod_0 : decode jb_cod 0 = .ok (.getstatic 38, 3) := by decide +kernel
theorem jd_cod_3 : decode jb_cod 3 = .ok (.ifCond .eq 10, 3) := by decide +kernel
theorem jd_cod_6 : decode jb_cod 6 = .ok (.aload_n 0, 1) := by decide +kernel
theorem jd_cod_7 : decode jb_cod 7 = .ok (.getfield 15, 3) := by decide +kernel
theorem jd_cod_10 : decode jb_cod 10 = .ok (.goto 4, 3) := by decide +kernel
theorem jd_cod_13 : decode jb_cod 13 = .ok (.iconst 1, 1) := by decide +kernel
theorem jd_cod_14 : decode jb_cod 14 = .ok (.ireturn, 1) := by decide +kernel
abbrev jy_lat : MethodName := ⟨"java/lang/String", "isLatin1", "()Z"⟩
abbrev jb_lat : ByteArray := prog_14_method_154_code
set_option maxRecDepth 20000 in
theorem jc_lat : Cond.code jy_lat jb_lat 1 (some .boolean) ∈ GW := List.mem_filter.mpr ⟨List.mem_append_right _ (List.mem_append_right _ (List.mem_append_right _ (List.mem_append_left _ (List.mem_of_getElem? (i := 99) rfl)))), rfl⟩
theorem jd_lat_0 : decode jb_lat 0 = .ok (.getstatic 38, 3) := by decide +kernel
theorem jd_lat_3 : decode jb_lat 3 = .ok (.ifCond .eq 14, 3) := by decide +kernel
theorem jd_lat_6 : decode jb_lat 6 = .ok (.aload_n 0, 1) := by decide +kernel
theorem jd_lat_7 : decode jb_lat 7 = .ok (.getfield 15, 3) := by decide +kernel
theorem jd_lat_10 : decode jb_lat 10 = .ok (.ifCond .ne 7, 3) := by decide +kernel
theorem jd_lat_13 : decode jb_lat 13 = .ok (.iconst 1, 1) := by decide +kernel
theorem jd_lat_14 : decode jb_lat 14 = .ok (.goto 4, 3) := by decide +kernel
theorem jd_lat_17 : decode jb_lat 17 = .ok (.iconst 0, 1) := by decide +kernel
theorem jd_lat_18 : decode jb_lat 18 = .ok (.ireturn, 1) := by decide +kernel
abbrev jy_chk : MethodName := ⟨"java/lang/String", "checkIndex", "(II)V"⟩
abbrev jb_chk : ByteArray := prog_14_method_155_code
set_option maxRecDepth 20000 in
theorem jc_chk : Cond.code jy_chk jb_chk 2 none ∈ GW := List.mem_filter.mpr ⟨List.mem_append_right _ (List.mem_append_right _ (List.mem_append_right _ (List.mem_append_left _ (List.mem_of_getElem? (i := 105) rfl)))), rfl⟩
theorem jd_chk_0 : decode jb_chk 0 = .ok (.iload_n 0, 1) := by decide +kernel
theorem jd_chk_1 : decode jb_chk 1 = .ok (.iload_n 1, 1) := by decide +kernel
theorem jd_chk_2 : decode jb_chk 2 = .ok (.getstatic 1053, 3) := by decide +kernel
theorem jd_chk_5 : decode jb_chk 5 = .ok (.invokestatic 1059, 3) := by decide +kernel
theorem jd_chk_8 : decode jb_chk 8 = .ok (.pop, 1) := by decide +kernel
theorem jd_chk_9 : decode jb_chk 9 = .ok (.return_, 1) := by decide +kernel
abbrev jy_lch : MethodName := ⟨"java/lang/StringLatin1", "charAt", "([BI)C"⟩
abbrev jb_lch : ByteArray := prog_15_method_2_code
set_option maxRecDepth 20000 in
theorem jc_lch : Cond.code jy_lch jb_lch 2 (some .char) ∈ GW := List.mem_filter.mpr ⟨List.mem_append_right _ (List.mem_append_right _ (List.mem_append_right _ (List.mem_append_left _ (List.mem_of_getElem? (i := 102) rfl)))), rfl⟩
theorem jd_lch_0 : decode jb_lch 0 = .ok (.iload_n 1, 1) := by decide +kernel
theorem jd_lch_1 : decode jb_lch 1 = .ok (.aload_n 0, 1) := by decide +kernel
theorem jd_lch_2 : decode jb_lch 2 = .ok (.arraylength, 1) := by decide +kernel
theorem jd_lch_3 : decode jb_lch 3 = .ok (.invokestatic 9, 3) := by decide +kernel
theorem jd_lch_6 : decode jb_lch 6 = .ok (.aload_n 0, 1) := by decide +kernel
theorem jd_lch_7 : decode jb_lch 7 = .ok (.iload_n 1, 1) := by decide +kernel
theorem jd_lch_8 : decode jb_lch 8 = .ok (.baload, 1) := by decide +kernel
theorem jd_lch_9 : decode jb_lch 9 = .ok (.sipush 255, 3) := by decide +kernel
theorem jd_lch_12 : decode jb_lch 12 = .ok (.iand, 1) := by decide +kernel
theorem jd_lch_13 : decode jb_lch 13 = .ok (.i2c, 1) := by decide +kernel
theorem jd_lch_14 : decode jb_lch 14 = .ok (.ireturn, 1) := by decide +kernel
abbrev jy_pre : MethodName := ⟨"jdk/internal/util/Preconditions", "checkIndex", "(IILjava/util/function/BiFunction;)I"⟩
abbrev jb_pre : ByteArray := prog_18_method_11_code
set_option maxRecDepth 20000 in
theorem jc_pre : Cond.code jy_pre jb_pre 3 (some .int) ∈ GW := List.mem_filter.mpr ⟨List.mem_append_right _ (List.mem_append_right _ (List.mem_append_right _ (List.mem_append_left _ (List.mem_of_getElem? (i := 110) rfl)))), rfl⟩
theorem jd_pre_0 : decode jb_pre 0 = .ok (.iload_n 0, 1) := by decide +kernel
theorem jd_pre_1 : decode jb_pre 1 = .ok (.ifCond .lt 8, 3) := by decide +kernel
theorem jd_pre_4 : decode jb_pre 4 = .ok (.iload_n 0, 1) := by decide +kernel
theorem jd_pre_5 : decode jb_pre 5 = .ok (.iload_n 1, 1) := by decide +kernel
theorem jd_pre_6 : decode jb_pre 6 = .ok (.if_icmp .lt 10, 3) := by decide +kernel
theorem jd_pre_9 : decode jb_pre 9 = .ok (.aload_n 2, 1) := by decide +kernel
theorem jd_pre_10 : decode jb_pre 10 = .ok (.iload_n 0, 1) := by decide +kernel
theorem jd_pre_11 : decode jb_pre 11 = .ok (.iload_n 1, 1) := by decide +kernel
theorem jd_pre_12 : decode jb_pre 12 = .ok (.invokestatic 95, 3) := by decide +kernel
theorem jd_pre_15 : decode jb_pre 15 = .ok (.athrow, 1) := by decide +kernel
theorem jd_pre_16 : decode jb_pre 16 = .ok (.iload_n 0, 1) := by decide +kernel
theorem jd_pre_17 : decode jb_pre 17 = .ok (.ireturn, 1) := by decide +kernel
def jws : List Cond := [.initialized "java/lang/String", .initialized "java/lang/StringLatin1", .initialized "jdk/internal/util/Preconditions", .instanceMethod jy_len, .instanceMethod jy_cha, .instanceMethod jy_cod, .instanceMethod jy_lat, .selects "java/lang/String" jy_len jy_len, .selects "java/lang/String" jy_cha jy_cha, .selects "java/lang/String" jy_cod jy_cod, .selects "java/lang/String" jy_lat jy_lat, .static jy_chk, .static jy_lch, .static jy_pre, .fieldLink "java/lang/String" 9 "java/lang/String" "value" "[B", .fieldLink "java/lang/String" 38 "java/lang/String" "COMPACT_STRINGS" "Z", .fieldLink "java/lang/String" 15 "java/lang/String" "coder" "B", .methodLink "java/lang/String" 335 jy_cod, .methodLink "java/lang/String" 492 jy_lat, .methodLink "java/lang/String" 495 jy_lch, .methodLink "java/lang/StringLatin1" 9 jy_chk, .methodLink "java/lang/String" 1059 jy_pre, .fieldLink "java/lang/String" 1053 "jdk/internal/util/Preconditions" "SIOOBE_FORMATTER" "Ljava/util/function/BiFunction;"]
theorem jws_in : ∀ w ∈ jws, w ∈ GW := by
  have h : ∀ w ∈ jws, w ∈ lw_tbl ∧ goodWord w = true := by decide +kernel
  exact fun w hw => List.mem_filter.mpr (h w hw)
def wsJ (y : MethodName) (b : ByteArray) (n : Nat) (r : Option FieldType) : List Cond := Cond.code y b n r :: GW
theorem wsJ_good {y : MethodName} {b : ByteArray} {n : Nat} {r : Option FieldType} (h : Cond.code y b n r ∈ GW) : GoodIn GW (wsJ y b n r) := by
  intro w hw
  rcases List.mem_cons.mp hw with rfl | hw
  · exact ⟨h, gw_good h⟩
  · exact good_GW w hw
def PJ (G : GP) (D : va_G) (L : Nat) (xs : Nat → Int32) (adV : Nat → Nat) (av : List Value) : Array Value → State → Prop := fun v U => v = av.toArray ∧ XX G D L xs adV U
def QJ (r : Option Value) : Array Value → State → Outcome → State → Prop := fun _ st o t => o = .returned r ∧ t.heap = st.heap
theorem PJ_blind (G : GP) (D : va_G) (L : Nat) (xs : Nat → Int32) (adV : Nat → Nat) (av : List Value) : FrameBlind (PJ G D L xs adV av) := fun _ _ _ _ h => ⟨h.1, h.2.same rfl rfl⟩
def rmJ (k : Nat) : Room := { frames := k, cells := 0, slots := 0, locals := 40 * k }
/-- behind a call that leaves the heap as it was -/
theorem W_callP {p : Program} {l : Launch} {e : Env} {R : Room} {s : State} {m : MethodId} {args : Array Value} {below : List Frame} {meth : Method} {c : Code} {H : Heap} {locs : List Loc} {cells slots : Nat} {Q : State → Prop} {pc : Nat} {ls : Array Slot} {rest st0 : List Value} {v0 : Option Value} {a : Array Value}
    (hr : va_Run p l e R s m args below meth c H locs cells slots 0 0 (F0 m pc ls st0) rest (QJ v0 a) (fun _ => False))
    (kk : W p l e R s m args below meth c H locs cells slots Q (F0 m (pc + 3) ls (v0.toList ++ rest))) : W p l e R s m args below meth c H locs cells slots Q (F0 m pc ls st0) := by
  intro T hT X
  obtain ⟨v, st₀, t, T', LL, h0, X', hL, e1, e2, ⟨hv, hh⟩, st⟩ := hr T hT X
  cases hv
  obtain ⟨t2, a1, b1⟩ := kk T' (by rw [e1, hh, h0]) (Stand.forget X' (fun q h => (hL q h).elim))
  exact ⟨t2, st t2 a1, b1⟩
section STRS
variable {G : GP} {D : va_G} {L : Nat} {xs : Nat → Int32} {adV : Nat → Nat} {l : Launch}
theorem j_cod (j : Nat) (hj : j < 25) : Met l jy_cod (wsJ jy_cod jb_cod 1 (some .byte)) (rmJ 0) (PJ G D L xs adV [.ref (G.2.2.1 j)]) (QJ (some (.int 0))) 0 0 (fun _ => False) := by
  refine Met.ofW (cc := jb_cod) (maxL := 1) (ret := some .byte) (by decide +kernel) rfl ?_
  intro p e s m args below meth c s₁ B hml hv
  obtain ⟨rfl, hX⟩ := hv
  have hx := B.exec
  have hb := B.bytes
  have hr := B.returns
  have hts0 := atoms_spec (ws := wsJ jy_cod jb_cod 1 (some .byte)) B.pre
  have hts : ∀ w ∈ GW, w.before _ s = true := fun w h => hts0 w (List.mem_cons_of_mem _ h)
  have hown : s.vm.findClass "java/lang/String" = some m.cls := findClass_of_methodNamed B.named
  have hlocks := B.notSynchronized
  have hS : va_S (fun q => G.1 ≤ q) s.heap s.heap [] := va_S.rf
  have hl := lv_entry ([.ref (G.2.2.1 j)]) (n := 1) (Nat.le_of_ble_eq_true rfl)
  rw [lg_entry_eq]
  generalize (lg_sl ([.ref (G.2.2.1 j)]) ++ List.replicate (1 - (lg_sl ([.ref (G.2.2.1 j)])).length) Slot.unset).toArray = ls at hl ⊢
  have hl : lv_has ls 1 [(0, .ref (G.2.2.1 j))] := hl
  obtain ⟨-, -, -, -, hE, -, hZ, -⟩ := hX
  refine va_gets hx hb hZ hS hown (hts _ (jws_in (.fieldLink "java/lang/String" 38 "java/lang/String" "COMPACT_STRINGS" "Z") (by decide +kernel))) (fun _ h => h) jd_cod_0 ?_
  refine lv_if_eq (tgt := 13) hx hb jd_cod_3 (by decide) (fun h => absurd h (by decide)) (fun _ => ?_)
  refine lv_aload_n hx hb jd_cod_6 rfl (lv_at hl 0 rfl) ?_
  refine vk_getf hx hb (hE.1 j hj).2.1 hS hown (hts _ (jws_in (.fieldLink "java/lang/String" 15 "java/lang/String" "coder" "B") (by decide +kernel))) (fun _ h => h) jd_cod_7 ?_
  refine lv_goto (tgt := 14) hx hb jd_cod_10 (by decide) ?_
  exact W.zret hx hb hr rfl (fun t ht _ => ⟨rfl, ht⟩) (fun q h => by cases h) jd_cod_14
theorem j_lat (j : Nat) (hj : j < 25) : Met l jy_lat (wsJ jy_lat jb_lat 1 (some .boolean)) (rmJ 0) (PJ G D L xs adV [.ref (G.2.2.1 j)]) (QJ (some (.int 1))) 0 0 (fun _ => False) := by
  refine Met.ofW (cc := jb_lat) (maxL := 1) (ret := some .boolean) (by decide +kernel) rfl ?_
  intro p e s m args below meth c s₁ B hml hv
  obtain ⟨rfl, hX⟩ := hv
  have hx := B.exec
  have hb := B.bytes
  have hr := B.returns
  have hts0 := atoms_spec (ws := wsJ jy_lat jb_lat 1 (some .boolean)) B.pre
  have hts : ∀ w ∈ GW, w.before _ s = true := fun w h => hts0 w (List.mem_cons_of_mem _ h)
  have hown : s.vm.findClass "java/lang/String" = some m.cls := findClass_of_methodNamed B.named
  have hlocks := B.notSynchronized
  have hS : va_S (fun q => G.1 ≤ q) s.heap s.heap [] := va_S.rf
  have hl := lv_entry ([.ref (G.2.2.1 j)]) (n := 1) (Nat.le_of_ble_eq_true rfl)
  rw [lg_entry_eq]
  generalize (lg_sl ([.ref (G.2.2.1 j)]) ++ List.replicate (1 - (lg_sl ([.ref (G.2.2.1 j)])).length) Slot.unset).toArray = ls at hl ⊢
  have hl : lv_has ls 1 [(0, .ref (G.2.2.1 j))] := hl
  obtain ⟨-, -, -, -, hE, -, hZ, -⟩ := hX
  refine va_gets hx hb hZ hS hown (hts _ (jws_in (.fieldLink "java/lang/String" 38 "java/lang/String" "COMPACT_STRINGS" "Z") (by decide +kernel))) (fun _ h => h) jd_lat_0 ?_
  refine lv_if_eq (tgt := 17) hx hb jd_lat_3 (by decide) (fun h => absurd h (by decide)) (fun _ => ?_)
  refine lv_aload_n hx hb jd_lat_6 rfl (lv_at hl 0 rfl) ?_
  refine vk_getf hx hb (hE.1 j hj).2.1 hS hown (hts _ (jws_in (.fieldLink "java/lang/String" 15 "java/lang/String" "coder" "B") (by decide +kernel))) (fun _ h => h) jd_lat_7 ?_
  refine lv_if_ne (tgt := 17) hx hb jd_lat_10 (by decide) (fun h => absurd rfl h) (fun _ => ?_)
  refine lv_iconst (v := 1) hx hb jd_lat_13 (by decide) ?_
  refine lv_goto (tgt := 18) hx hb jd_lat_14 (by decide) ?_
  exact W.zret hx hb hr rfl (fun t ht _ => ⟨rfl, ht⟩) (fun q h => by cases h) jd_lat_18
theorem j_pre (x n : Int32) (v : Value) (h0 : ¬ x < 0) (h1 : x < n) (hv : v = .null ∨ ∃ t, v = .ref t) : Met l jy_pre (wsJ jy_pre jb_pre 3 (some .int)) (rmJ 0) (PJ G D L xs adV [.int x, .int n, v]) (QJ (some (.int x))) 0 0 (fun _ => False) := by
  refine Met.ofW (cc := jb_pre) (maxL := 3) (ret := some .int) (by decide +kernel) rfl ?_
  intro p e s m args below meth c s₁ B hml hp
  obtain ⟨rfl, hX⟩ := hp
  have hx := B.exec
  have hb := B.bytes
  have hr := B.returns
  have hlocks := B.notSynchronized
  have hcat : v.category = 1 := by rcases hv with rfl | ⟨t, rfl⟩ <;> rfl
  have hlen : (lg_sl ([.int x, .int n, v])).length ≤ 3 := by rcases hv with rfl | ⟨t, rfl⟩ <;> exact Nat.le_of_ble_eq_true rfl
  have hl := lv_entry ([.int x, .int n, v]) (n := 3) hlen
  rw [lg_entry_eq]
  generalize (lg_sl ([.int x, .int n, v]) ++ List.replicate (3 - (lg_sl ([.int x, .int n, v])).length) Slot.unset).toArray = ls at hl ⊢
  have hl : lv_has ls 3 [(0, .int x), (1, .int n), (2, v)] := hl
  refine lv_iload_n hx hb jd_pre_0 rfl (lv_at hl 0 rfl) ?_
  refine lv_if_lt (tgt := 9) hx hb jd_pre_1 (by decide) (fun h => absurd h h0) (fun _ => ?_)
  refine lv_iload_n hx hb jd_pre_4 rfl (lv_at hl 0 rfl) ?_
  refine lv_iload_n hx hb jd_pre_5 rfl (lv_at hl 1 rfl) ?_
  refine lv_icmp_lt (tgt := 16) hx hb jd_pre_6 (by decide) (fun _ => ?_) (fun h => absurd h1 h)
  refine lv_iload_n hx hb jd_pre_16 rfl (lv_at hl 0 rfl) ?_
  exact W.iret hx hb hr (fun t ht _ => ⟨rfl, ht⟩) (fun q h => by cases h) jd_pre_17
theorem j_chk (x n : Int32) (h0 : ¬ x < 0) (h1 : x < n) : Met l jy_chk (wsJ jy_chk jb_chk 2 none) (rmJ 1) (PJ G D L xs adV [.int x, .int n]) (QJ none) 0 0 (fun _ => False) := by
  refine Met.ofW (cc := jb_chk) (maxL := 2) (ret := none) (by decide +kernel) rfl ?_
  intro p e s m args below meth c s₁ B hml hp
  obtain ⟨rfl, hX⟩ := hp
  have hx := B.exec
  have hb := B.bytes
  have hr := B.returns
  have hts0 := atoms_spec (ws := wsJ jy_chk jb_chk 2 none) B.pre
  have hts : ∀ w ∈ GW, w.before _ s = true := fun w h => hts0 w (List.mem_cons_of_mem _ h)
  have hown : s.vm.findClass "java/lang/String" = some m.cls := findClass_of_methodNamed B.named
  have hlocks := B.notSynchronized
  have hS : va_S (fun q => G.1 ≤ q) s.heap s.heap [] := va_S.rf
  have hl := lv_entry ([.int x, .int n]) (n := 2) (Nat.le_of_ble_eq_true rfl)
  rw [lg_entry_eq]
  generalize (lg_sl ([.int x, .int n]) ++ List.replicate (2 - (lg_sl ([.int x, .int n])).length) Slot.unset).toArray = ls at hl ⊢
  have hl : lv_has ls 2 [(0, .int x), (1, .int n)] := hl
  refine lv_iload_n hx hb jd_chk_0 rfl (lv_at hl 0 rfl) ?_
  refine lv_iload_n hx hb jd_chk_1 rfl (lv_at hl 1 rfl) ?_
  have hq := hX.2.2.2.2.2.2.2.2.2
  have hcb : CallB (headSpec (wsJ jy_chk jb_chk 2 none) (rmJ 1)).room s #[.int x, .int n] "java/lang/String" 1059 jy_pre jb_pre 3 (some .int) (wsJ jy_pre jb_pre 3 (some .int)) (rmJ 0) 0 0 3 := callB_of 3 hts (wsJ_good jc_pre) rfl rfl rfl (hts _ (jws_in (.initialized "jdk/internal/util/Preconditions") (by decide +kernel))) (hts _ (jws_in (.methodLink "java/lang/String" 1059 jy_pre) (by decide +kernel))) ⟨by decide, by decide, by decide +kernel⟩ ⟨Nat.le_of_ble_eq_true rfl, Nat.le_of_ble_eq_true rfl⟩
  have hpre : ∀ v : Value, PreS s s.heap (PJ G D L xs adV [.int x, .int n, v]) [.int x, .int n, v] := fun v => ⟨PJ_blind _ _ _ _ _ _, fun U hU hW => ⟨rfl, hX.go hW (by rw [hU]; exact hS)⟩⟩
  have hlnk := hts _ (jws_in (.fieldLink "java/lang/String" 1053 "jdk/internal/util/Preconditions" "SIOOBE_FORMATTER" "Ljava/util/function/BiFunction;") (by decide +kernel))
  have hstt := hts _ (jws_in (.static jy_pre) (by decide +kernel))
  rcases hq with hZ | ⟨t, hZ⟩
  · refine va_gets hx hb hZ hS hown hlnk (fun _ h => h) jd_chk_2 ?_
    refine W_callP (va_runS (As := [.int x, .int n, .null]) (rest := []) ⟨hx, hb, hml, hown, hts⟩ (j_pre (G := G) (D := D) (L := L) (xs := xs) (adV := adV) x n .null h0 h1 (Or.inl rfl)) ⟨hcb, hstt⟩ (hpre .null) rfl rfl hl.1 rfl (lv_room (Nat.le_of_ble_eq_true rfl)) jd_chk_5 ⟨Nat.zero_le _, Nat.zero_le _⟩) ?_
    refine lv_pop hx hb jd_chk_8 rfl ?_
    exact W.vret hx hb hr (fun t ht _ => ⟨rfl, ht⟩) (fun q h => by cases h) jd_chk_9
  · refine va_gets hx hb hZ hS hown hlnk (fun _ h => h) jd_chk_2 ?_
    refine W_callP (va_runS (As := [.int x, .int n, .ref t]) (rest := []) ⟨hx, hb, hml, hown, hts⟩ (j_pre (G := G) (D := D) (L := L) (xs := xs) (adV := adV) x n (.ref t) h0 h1 (Or.inr ⟨t, rfl⟩)) ⟨hcb, hstt⟩ (hpre (.ref t)) rfl rfl hl.1 rfl (lv_room (Nat.le_of_ble_eq_true rfl)) jd_chk_5 ⟨Nat.zero_le _, Nat.zero_le _⟩) ?_
    refine lv_pop hx hb jd_chk_8 rfl ?_
    exact W.vret hx hb hr (fun t ht _ => ⟨rfl, ht⟩) (fun q h => by cases h) jd_chk_9
theorem j_lch (j : Nat) (hj : j < 25) (x v : Int32) (hin : vp_in x (txLen.getD j 0)) (hlt : x < Int32.ofNat (txLen.getD j 0)) (hv : ((((txts.getD j []).getD x.toNatClampNeg 0) &&& 255).toUInt32 % 65536).toInt32 = v) (hn : narrow .char (.int v) = .int v) : Met l jy_lch (wsJ jy_lch jb_lch 2 (some .char)) (rmJ 2) (PJ G D L xs adV [.ref (adV j), .int x]) (QJ (some (.int v))) 0 0 (fun _ => False) := by
  refine Met.ofW (cc := jb_lch) (maxL := 2) (ret := some .char) (by decide +kernel) rfl ?_
  intro p e s m args below meth c s₁ B hml hp
  obtain ⟨rfl, hX⟩ := hp
  have hx := B.exec
  have hb := B.bytes
  have hr := B.returns
  have hts0 := atoms_spec (ws := wsJ jy_lch jb_lch 2 (some .char)) B.pre
  have hts : ∀ w ∈ GW, w.before _ s = true := fun w h => hts0 w (List.mem_cons_of_mem _ h)
  have hown : s.vm.findClass "java/lang/StringLatin1" = some m.cls := findClass_of_methodNamed B.named
  have hlocks := B.notSynchronized
  have hS : va_S (fun q => G.1 ≤ q) s.heap s.heap [] := va_S.rf
  have hl := lv_entry ([.ref (adV j), .int x]) (n := 2) (Nat.le_of_ble_eq_true rfl)
  rw [lg_entry_eq]
  generalize (lg_sl ([.ref (adV j), .int x]) ++ List.replicate (2 - (lg_sl ([.ref (adV j), .int x])).length) Slot.unset).toArray = ls at hl ⊢
  have hl : lv_has ls 2 [(0, .ref (adV j)), (1, .int x)] := hl
  have hE := hX.2.2.2.2.1
  refine lv_iload_n hx hb jd_lch_0 rfl (lv_at hl 1 rfl) ?_
  refine lv_aload_n hx hb jd_lch_1 rfl (lv_at hl 0 rfl) ?_
  refine va_tlen hx hb (hE.1 j hj).2.2.2 hS rfl jd_lch_2 ?_
  have hcb : CallB (headSpec (wsJ jy_lch jb_lch 2 (some .char)) (rmJ 2)).room s #[.ref (adV j), .int x] "java/lang/StringLatin1" 9 jy_chk jb_chk 2 none (wsJ jy_chk jb_chk 2 none) (rmJ 1) 0 0 2 := callB_of 2 hts (wsJ_good jc_chk) rfl rfl rfl (hts _ (jws_in (.initialized "java/lang/String") (by decide +kernel))) (hts _ (jws_in (.methodLink "java/lang/StringLatin1" 9 jy_chk) (by decide +kernel))) ⟨by decide, by decide, by decide +kernel⟩ ⟨Nat.le_of_ble_eq_true rfl, Nat.le_of_ble_eq_true rfl⟩
  refine W_callP (va_runS (As := [.int x, .int (Int32.ofNat (txLen.getD j 0))]) (rest := []) ⟨hx, hb, hml, hown, hts⟩ (j_chk (G := G) (D := D) (L := L) (xs := xs) (adV := adV) x _ (fun h => hin (Or.inl h)) hlt) ⟨hcb, hts _ (jws_in (.static jy_chk) (by decide +kernel))⟩ ⟨PJ_blind _ _ _ _ _ _, fun U hU hW => ⟨rfl, hX.go hW (by rw [hU]; exact hS)⟩⟩ rfl rfl hl.1 rfl (lv_room (Nat.le_of_ble_eq_true rfl)) jd_lch_3 ⟨Nat.zero_le _, Nat.zero_le _⟩) ?_
  refine lv_aload_n hx hb jd_lch_6 rfl (lv_at hl 0 rfl) ?_
  refine lv_iload_n hx hb jd_lch_7 rfl (lv_at hl 1 rfl) ?_
  refine va_tb hx hb (hE.1 j hj).2.2.2 hS hin rfl jd_lch_8 ?_
  refine lv_sipush (v := 255) hx hb jd_lch_9 (by decide) ?_
  refine lv_iand hx hb jd_lch_12 ?_
  refine lv_i2c hx hb jd_lch_13 hv ?_
  exact W.zret hx hb hr hn (fun t ht _ => ⟨rfl, ht⟩) (fun q h => by cases h) jd_lch_14
theorem j_cha (j : Nat) (hj : j < 25) (x v : Int32) (hin : vp_in x (txLen.getD j 0)) (hlt : x < Int32.ofNat (txLen.getD j 0)) (hv : ((((txts.getD j []).getD x.toNatClampNeg 0) &&& 255).toUInt32 % 65536).toInt32 = v) (hn : narrow .char (.int v) = .int v) : Met l jy_cha (wsJ jy_cha jb_cha 2 (some .char)) (rmJ 3) (PJ G D L xs adV [.ref (G.2.2.1 j), .int x]) (QJ (some (.int v))) 0 0 (fun _ => False) := by
  refine Met.ofW (cc := jb_cha) (maxL := 2) (ret := some .char) (by decide +kernel) rfl ?_
  intro p e s m args below meth c s₁ B hml hp
  obtain ⟨rfl, hX⟩ := hp
  have hx := B.exec
  have hb := B.bytes
  have hr := B.returns
  have hts0 := atoms_spec (ws := wsJ jy_cha jb_cha 2 (some .char)) B.pre
  have hts : ∀ w ∈ GW, w.before _ s = true := fun w h => hts0 w (List.mem_cons_of_mem _ h)
  have hown : s.vm.findClass "java/lang/String" = some m.cls := findClass_of_methodNamed B.named
  have hlocks := B.notSynchronized
  have hS : va_S (fun q => G.1 ≤ q) s.heap s.heap [] := va_S.rf
  have hl := lv_entry ([.ref (G.2.2.1 j), .int x]) (n := 2) (Nat.le_of_ble_eq_true rfl)
  rw [lg_entry_eq]
  generalize (lg_sl ([.ref (G.2.2.1 j), .int x]) ++ List.replicate (2 - (lg_sl ([.ref (G.2.2.1 j), .int x])).length) Slot.unset).toArray = ls at hl ⊢
  have hl : lv_has ls 2 [(0, .ref (G.2.2.1 j)), (1, .int x)] := hl
  have hE := hX.2.2.2.2.1
  refine lv_aload_n hx hb jd_cha_0 rfl (lv_at hl 0 rfl) ?_
  have hcb : CallB (headSpec (wsJ jy_cha jb_cha 2 (some .char)) (rmJ 3)).room s #[.ref (G.2.2.1 j), .int x] "java/lang/String" 492 jy_lat jb_lat 1 (some .boolean) (wsJ jy_lat jb_lat 1 (some .boolean)) (rmJ 0) 0 0 0 := callB_of 0 hts (wsJ_good jc_lat) rfl rfl rfl (hts _ (jws_in (.initialized "java/lang/String") (by decide +kernel))) (hts _ (jws_in (.methodLink "java/lang/String" 492 jy_lat) (by decide +kernel))) ⟨by decide, by decide, by decide +kernel⟩ ⟨Nat.le_of_ble_eq_true rfl, Nat.le_of_ble_eq_true rfl⟩
  refine W_callP (va_runV (As := []) (rest := []) ⟨hx, hb, hml, hown, hts⟩ (j_lat (G := G) (D := D) (L := L) (xs := xs) (adV := adV) j hj) ⟨hcb, hts _ (jws_in (.instanceMethod jy_lat) (by decide +kernel)), hts _ (jws_in (.selects "java/lang/String" jy_lat jy_lat) (by decide +kernel))⟩ ⟨PJ_blind _ _ _ _ _ _, vk_recv hE hj hS, fun U hU hW => ⟨rfl, hX.go hW (by rw [hU]; exact hS)⟩⟩ rfl rfl hl.1 rfl (lv_room (Nat.le_of_ble_eq_true rfl)) jd_cha_1 ⟨Nat.zero_le _, Nat.zero_le _⟩) ?_
  refine lv_if_eq (tgt := 16) hx hb jd_cha_4 (by decide) (fun h => absurd h (by decide)) (fun _ => ?_)
  refine lv_aload_n hx hb jd_cha_7 rfl (lv_at hl 0 rfl) ?_
  refine vk_getf hx hb (hE.1 j hj).2.2.1 hS hown (hts _ (jws_in (.fieldLink "java/lang/String" 9 "java/lang/String" "value" "[B") (by decide +kernel))) (fun _ h => h) jd_cha_8 ?_
  refine lv_iload_n hx hb jd_cha_11 rfl (lv_at hl 1 rfl) ?_
  have hcb2 : CallB (headSpec (wsJ jy_cha jb_cha 2 (some .char)) (rmJ 3)).room s #[.ref (G.2.2.1 j), .int x] "java/lang/String" 495 jy_lch jb_lch 2 (some .char) (wsJ jy_lch jb_lch 2 (some .char)) (rmJ 2) 0 0 2 := callB_of 2 hts (wsJ_good jc_lch) rfl rfl rfl (hts _ (jws_in (.initialized "java/lang/StringLatin1") (by decide +kernel))) (hts _ (jws_in (.methodLink "java/lang/String" 495 jy_lch) (by decide +kernel))) ⟨by decide, by decide, by decide +kernel⟩ ⟨Nat.le_of_ble_eq_true rfl, Nat.le_of_ble_eq_true rfl⟩
  refine W_callP (va_runS (As := [.ref (adV j), .int x]) (rest := []) ⟨hx, hb, hml, hown, hts⟩ (j_lch (G := G) (D := D) (L := L) (xs := xs) (adV := adV) j hj x v hin hlt hv hn) ⟨hcb2, hts _ (jws_in (.static jy_lch) (by decide +kernel))⟩ ⟨PJ_blind _ _ _ _ _ _, fun U hU hW => ⟨rfl, hX.go hW (by rw [hU]; exact hS)⟩⟩ rfl rfl hl.1 rfl (lv_room (Nat.le_of_ble_eq_true rfl)) jd_cha_12 ⟨Nat.zero_le _, Nat.zero_le _⟩) ?_
  exact W.zret hx hb hr hn (fun t ht _ => ⟨rfl, ht⟩) (fun q h => by cases h) jd_cha_15
theorem j_len (j : Nat) (hj : j < 25) (v : Int32) (hv : Int32.ofNat (txLen.getD j 0) >>> ((0 : Int32) &&& 31) = v) : Met l jy_len (wsJ jy_len jb_len 1 (some .int)) (rmJ 1) (PJ G D L xs adV [.ref (G.2.2.1 j)]) (QJ (some (.int v))) 0 0 (fun _ => False) := by
  refine Met.ofW (cc := jb_len) (maxL := 1) (ret := some .int) (by decide +kernel) rfl ?_
  intro p e s m args below meth c s₁ B hml hp
  obtain ⟨rfl, hX⟩ := hp
  have hx := B.exec
  have hb := B.bytes
  have hr := B.returns
  have hts0 := atoms_spec (ws := wsJ jy_len jb_len 1 (some .int)) B.pre
  have hts : ∀ w ∈ GW, w.before _ s = true := fun w h => hts0 w (List.mem_cons_of_mem _ h)
  have hown : s.vm.findClass "java/lang/String" = some m.cls := findClass_of_methodNamed B.named
  have hlocks := B.notSynchronized
  have hS : va_S (fun q => G.1 ≤ q) s.heap s.heap [] := va_S.rf
  have hl := lv_entry ([.ref (G.2.2.1 j)]) (n := 1) (Nat.le_of_ble_eq_true rfl)
  rw [lg_entry_eq]
  generalize (lg_sl ([.ref (G.2.2.1 j)]) ++ List.replicate (1 - (lg_sl ([.ref (G.2.2.1 j)])).length) Slot.unset).toArray = ls at hl ⊢
  have hl : lv_has ls 1 [(0, .ref (G.2.2.1 j))] := hl
  have hE := hX.2.2.2.2.1
  refine lv_aload_n hx hb jd_len_0 rfl (lv_at hl 0 rfl) ?_
  refine vk_getf hx hb (hE.1 j hj).2.2.1 hS hown (hts _ (jws_in (.fieldLink "java/lang/String" 9 "java/lang/String" "value" "[B") (by decide +kernel))) (fun _ h => h) jd_len_1 ?_
  refine va_tlen hx hb (hE.1 j hj).2.2.2 hS rfl jd_len_4 ?_
  refine lv_aload_n hx hb jd_len_5 rfl (lv_at hl 0 rfl) ?_
  have hcb : CallB (headSpec (wsJ jy_len jb_len 1 (some .int)) (rmJ 1)).room s #[.ref (G.2.2.1 j)] "java/lang/String" 335 jy_cod jb_cod 1 (some .byte) (wsJ jy_cod jb_cod 1 (some .byte)) (rmJ 0) 0 0 0 := callB_of 0 hts (wsJ_good jc_cod) rfl rfl rfl (hts _ (jws_in (.initialized "java/lang/String") (by decide +kernel))) (hts _ (jws_in (.methodLink "java/lang/String" 335 jy_cod) (by decide +kernel))) ⟨by decide, by decide, by decide +kernel⟩ ⟨Nat.le_of_ble_eq_true rfl, Nat.le_of_ble_eq_true rfl⟩
  refine W_callP (va_runV (As := []) (rest := [.int (Int32.ofNat (txLen.getD j 0))]) ⟨hx, hb, hml, hown, hts⟩ (j_cod (G := G) (D := D) (L := L) (xs := xs) (adV := adV) j hj) ⟨hcb, hts _ (jws_in (.instanceMethod jy_cod) (by decide +kernel)), hts _ (jws_in (.selects "java/lang/String" jy_cod jy_cod) (by decide +kernel))⟩ ⟨PJ_blind _ _ _ _ _ _, vk_recv hE hj hS, fun U hU hW => ⟨rfl, hX.go hW (by rw [hU]; exact hS)⟩⟩ rfl rfl hl.1 rfl (lv_room (Nat.le_of_ble_eq_true rfl)) jd_len_6 ⟨Nat.zero_le _, Nat.zero_le _⟩) ?_
  refine lv_ishr hx hb jd_len_9 ?_
  show W _ _ _ _ _ _ _ _ _ _ _ _ _ _ _ (F0 m (0 + 1 + 3 + 1 + 1 + 3 + 1) ls [.int (Int32.ofNat (txLen.getD j 0) >>> ((0 : Int32) &&& 31))])
  rw [hv]
  exact W.iret hx hb hr (fun t ht _ => ⟨rfl, ht⟩) (fun q h => by cases h) jd_len_10
end STRS
