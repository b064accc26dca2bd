/-! ===== rows: fields, arrays, new cells ===== -/
theorem lyG0 : ∀ k, k < 7 → u_lay RX0 TX0 k ∈ lw_tbl := by decide +kernel
theorem lyG1 : ∀ k, k < 17 → u_lay RX1 TX1 k ∈ lw_tbl := by decide +kernel
theorem lyG2 : ∀ k, k < 6 → u_lay RX2 TX2 k ∈ lw_tbl := by decide +kernel
theorem lyG3 : ∀ k, k < 3 → u_lay RX3 TX3 k ∈ lw_tbl := by decide +kernel
theorem lyG4 : ∀ k, k < 5 → u_lay RX4 TX4 k ∈ lw_tbl := by decide +kernel
theorem lyG5 : ∀ k, k < 4 → u_lay RX5 TX5 k ∈ lw_tbl := by decide +kernel
theorem lyG6 : ∀ k, k < 10 → u_lay RX6 TX6 k ∈ lw_tbl := by decide +kernel
theorem lyG7 : ∀ k, k < 6 → u_lay RX7 TX7 k ∈ lw_tbl := by decide +kernel
theorem lyG8 : ∀ k, k < 20 → u_lay RX8 TX8 k ∈ lw_tbl := by decide +kernel
theorem lyG9 : ∀ k, k < 56 → u_lay RX9 TX9 k ∈ lw_tbl := by decide +kernel
def cD (ci : Nat) : vw_C := classes.getD ci ("", fun _ => ("", "", "", false), 0)
def cty (ci : Nat) : Nat → FieldType := match ci with
  | 0 => tyX0
  | 1 => tyX1
  | 2 => tyX2
  | 3 => tyX3
  | 4 => tyX4
  | 5 => tyX5
  | 6 => tyX6
  | 7 => tyX7
  | 8 => tyX8
  | _ => tyX9
theorem lay_good (C : String) (T : u_T) (k : Nat) : goodWord (u_lay C T k) = true := by
  unfold u_lay
  split <;> rfl
theorem ws_of {C : String} {T : u_T} {N : Nat} (h : ∀ k, k < N → u_lay C T k ∈ lw_tbl) : ∀ w ∈ u_ws C T N, w ∈ GW := by
  intro w hw
  obtain ⟨k, hk, rfl⟩ := List.mem_map.mp hw
  exact List.mem_filter.mpr ⟨h k (List.mem_range.mp hk), lay_good _ _ _⟩
theorem c_ws (ci : Nat) (h : ci < 10) : ∀ w ∈ u_ws (cD ci).1 (cD ci).2.1 (cD ci).2.2, w ∈ GW := by
  match ci, h with
  | 0, _ => exact ws_of lyG0
  | 1, _ => exact ws_of lyG1
  | 2, _ => exact ws_of lyG2
  | 3, _ => exact ws_of lyG3
  | 4, _ => exact ws_of lyG4
  | 5, _ => exact ws_of lyG5
  | 6, _ => exact ws_of lyG6
  | 7, _ => exact ws_of lyG7
  | 8, _ => exact ws_of lyG8
  | 9, _ => exact ws_of lyG9
  | n + 10, h => exact absurd h (by omega)
theorem c_nm (ci : Nat) (h : ci < 10) : ∀ a, a < (cD ci).2.2 → ∀ b, b < (cD ci).2.2 → a ≠ b → ((cD ci).2.1 a).2.1 ≠ ((cD ci).2.1 b).2.1 := by
  match ci, h with
  | 0, _ => exact nmX0
  | 1, _ => exact nmX1
  | 2, _ => exact nmX2
  | 3, _ => exact nmX3
  | 4, _ => exact nmX4
  | 5, _ => exact nmX5
  | 6, _ => exact nmX6
  | 7, _ => exact nmX7
  | 8, _ => exact nmX8
  | 9, _ => exact nmX9
  | n + 10, h => exact absurd h (by omega)
theorem c_ty (ci : Nat) (h : ci < 10) : ∀ k, k < (cD ci).2.2 → parseFieldDescriptor ((cD ci).2.1 k).2.2.1 = some (cty ci k) := by
  match ci, h with
  | 0, _ => exact tyX0_ok
  | 1, _ => exact tyX1_ok
  | 2, _ => exact tyX2_ok
  | 3, _ => exact tyX3_ok
  | 4, _ => exact tyX4_ok
  | 5, _ => exact tyX5_ok
  | 6, _ => exact tyX6_ok
  | 7, _ => exact tyX7_ok
  | 8, _ => exact tyX8_ok
  | 9, _ => exact tyX9_ok
  | n + 10, h => exact absurd h (by omega)
theorem c_at (ci : Nat) (h : ci < 10) : classes[ci]? = some ((cD ci).1, (cD ci).2.1, (cD ci).2.2) := by
  match ci, h with
  | 0, _ | 1, _ | 2, _ | 3, _ | 4, _ | 5, _ | 6, _ | 7, _ | 8, _ | 9, _ => rfl
  | n + 10, h => exact absurd h (by omega)
theorem c_ck : ∀ ci, ci < 10 → (CKs.getD ci (0, 0, 0)).2.2 = (cD ci).2.2 ∧ (cD ci).1 = cnm.getD ci "" ∧ (dfl ci).length = (cD ci).2.2 := by decide +kernel
theorem c_df : ∀ ci, ci < 10 → ∀ k, k < (cD ci).2.2 → defaultValue (cty ci k) = vp_V (dfl ci) k ∧ ((dfl ci).getD k .null = .null ∨ (dfl ci).getD k .null = .int 0) := by decide +kernel
theorem c_dec : ∀ ci, ci < 10 → ∀ k, k < (cD ci).2.2 → ((cD ci).2.1 k).1 = cnm.getD ci "" := by decide +kernel
def Ctx (G : GP) (D : va_G) (L : Nat) (xs : Nat → Int32) (adV : Nat → Nat) (p : Program) (s : State) (mi : MethodId) (args : Array Value) (meth : Method) (c : Code) (m : Nat) : Prop :=
  p.tables.exec = Jvm.exec ∧ c.code = bc m ∧ c.maxLocals = mxL m ∧ s.vm.findClass (own m) = some mi.cls ∧ meth.sig.returnType = rtT m ∧ meth.locks = false ∧ (mkd.getD m 9 = 1 → meth.name = "<init>") ∧ (∀ w ∈ GW, w.before args s = true) ∧ XX G D L xs adV s
section ROWS
variable {G : GP} {D : va_G} {L : Nat} {xs : Nat → Int32} {adV : Nat → Nat} {p : Program} {l : Launch} {e : Env} {R : Room} {s : State} {mi : MethodId} {args : Array Value} {below : List Frame} {meth : Method} {c : Code} {H : Heap} {locs : List Loc} {cells slots : Nat} {Q : State → Prop}
  {m pc : Nat} {ls : Array Slot} {rest : List Value} {σ : Mem}
theorem fl_word (C : Ctx G D L xs adV p s mi args meth c m) (hm : m < 277) {i ci k : Nat} {q : Nat × Nat × Nat × Nat × Nat × Nat} (hq : q ∈ FL) (e1 : q.1 = cNo m) (e2 : q.2.1 = i) (e3 : q.2.2.1 = ci) (e4 : q.2.2.2.1 = k) :
    (q.2.2.2.2.1 = 0 ∧ (Cond.fieldLink (own m) i (cTX ci k).1 (cTX ci k).2.1 (cTX ci k).2.2.1).before args s = true) ∨ (q.2.2.2.2.1 ≠ 0 ∧ (Cond.fieldLinkNest (own m) i (cTX ci k).1 (cTX ci k).2.1 (cTX ci k).2.2.1 "TallySticks").before args s = true) := by
  obtain ⟨-, -, -, -, -, -, -, hts, hX⟩ := C
  have h1 := ckF q hq
  obtain ⟨a, b, c, d, n, j⟩ := q
  dsimp only at e1 e2 e3 e4 h1 ⊢
  subst e1; subst e2; subst e3; subst e4
  rw [ckO m hm]
  unfold fWord at h1
  by_cases hn : n = 0
  · subst hn
    exact Or.inl ⟨rfl, hts _ (gw_of h1 rfl)⟩
  · have hn' : (n == 0) = false := by simpa using hn
    dsimp only at h1
    rw [hn'] at h1
    refine Or.inr ⟨hn, va_Nw.use rfl (hX.2.1 _ (List.mem_filter.mpr ⟨List.mem_of_getElem? h1, rfl⟩))⟩
theorem cTX_eq (ci : Nat) : cTX ci = (cD ci).2.1 := rfl
theorem cv_map_get {fs : List Value} {k : Nat} {v : Value} (h : fs[k]? = some v) : (fs.map (cv G))[k]? = some (cv G v) := by
  rw [List.getElem?_map, h]; rfl
theorem r_get (C : Ctx G D L xs adV p s mi args meth c m) (hm : m < 277) (hA : AtQ G D L xs s σ H locs) {i ci k a : Nat} (hf : ∃ q ∈ FL, q.1 = cNo m ∧ q.2.1 = i ∧ q.2.2.1 = ci ∧ q.2.2.2.1 = k) (hci : ci < 10) (hk : k < (cD ci).2.2)
    {v : Value} (hv : gV σ ci a k = some v) (hdg : decode (bc m) pc = .ok (.getfield i, 3)) (kk : W p l e R s mi args below meth c H locs cells slots Q (F0 mi (pc + 3) ls (cv G v :: rest))) :
    W p l e R s mi args below meth c H locs cells slots Q (F0 mi pc ls (.ref (adr G a) :: rest)) := by
  obtain ⟨q, hq, e1, e2, e3, e4⟩ := hf
  obtain ⟨fs, h1, h2⟩ := gV_some hv
  have ha := wf_obj hA.2.2 h1 hci
  rw [adr_lt hA.2.2 ha]
  have he : (wd G σ)[a]? = some (G.1 + a, .inr (ci, fs.map (cv G))) := by rw [wd_at ha, h1]; rfl
  have hw := fl_word C hm hq e1 e2 e3 e4
  obtain ⟨hx, hb, -, hown, -, -, -, hts, hX⟩ := C
  rw [cTX_eq] at hw
  rcases hw with ⟨-, hw⟩ | ⟨-, hw⟩
  · exact va_get (C := (cD ci).1) (T := (cD ci).2.1) (N := (cD ci).2.2) hx hb hts (c_ws ci hci) hown hX.1 hA.1 a he (c_at ci hci) k hk hw (fun _ h => h) (cv_map_get h2) hdg kk
  · exact va_getN (C := (cD ci).1) (T := (cD ci).2.1) (N := (cD ci).2.2) hx hb hts (c_ws ci hci) hown hX.1 hA.1 a he (c_at ci hci) k hk hw (fun _ h => h) (cv_map_get h2) hdg kk
theorem At_set {τ : Mem} {a : Nat} {mc : MCQ} {H1 : Heap} {locs1 : List Loc} (hA : AtQ G D L xs s σ H locs) (ha : a < σ.1) (he : τ = setC σ a mc) (hc : ∀ q, mc = .inl q → q.1 < 6) (hP : va_P D classes ((wd G σ).set a (G.1 + a, ce G mc)) H1) (hS : va_S (fun q => G.1 ≤ q) s.heap H1 locs1) : AtQ G D L xs s τ H1 locs1 := by
  subst he
  exact ⟨by rw [wd_set ha]; exact hP, hS, wf_set hA.2.2 ha hc⟩
theorem r_put (C : Ctx G D L xs adV p s mi args meth c m) (hm : m < 277) (hA : AtQ G D L xs s σ H locs) {i ci k a : Nat} (hf : ∃ q ∈ FL, q.1 = cNo m ∧ q.2.1 = i ∧ q.2.2.1 = ci ∧ q.2.2.2.1 = k ∧ ((cTX ci k).2.2.2 = false ∨ (q.2.2.2.2.1 = 0 ∧ mkd.getD m 9 = 1 ∧ cNo m = ci))) (hci : ci < 10) (hk : k < (cD ci).2.2)
    {v : Value} {τ : Mem} (hv : pF σ ci a k v = some τ) {ty : FieldType} (hty : tyOf ci k = some ty) (hn : narrow ty (cv G v) = cv G v) (hfit : fits ty (cv G v) = true) (hdg : decode (bc m) pc = .ok (.putfield i, 3))
    (kk : ∀ (H1 : Heap) (locs1 : List Loc), AtQ G D L xs s τ H1 locs1 → W p l e R s mi args below meth c H1 locs1 cells slots Q (F0 mi (pc + 3) ls rest)) :
    W p l e R s mi args below meth c H locs cells slots Q (F0 mi pc ls (cv G v :: .ref (adr G a) :: rest)) := by
  obtain ⟨q, hq, e1, e2, e3, e4, hfin⟩ := hf
  obtain ⟨fs, h1, h2, h3⟩ := pF_some hv
  have ha := wf_obj hA.2.2 h1 hci
  rw [adr_lt hA.2.2 ha]
  have he : (wd G σ)[a]? = some (G.1 + a, .inr (ci, fs.map (cv G))) := by rw [wd_at ha, h1]; rfl
  have hw := fl_word C hm hq e1 e2 e3 e4
  have hO := ckO m hm
  obtain ⟨hx, hb, -, hown, -, -, hini, hts, hX⟩ := C
  have hl : k < (fs.map (cv G)).length := by rw [List.length_map]; exact h2
  rw [cTX_eq] at hw hfin
  have hset : ∀ (H1 : Heap) (locs1 : List Loc), va_P D classes ((wd G σ).set a (G.1 + a, .inr (ci, (fs.map (cv G)).set k (cv G v)))) H1 → va_S (fun q => G.1 ≤ q) s.heap H1 locs1 → AtQ G D L xs s τ H1 locs1 := by
    intro H1 locs1 g1 g2
    refine At_set hA ha h3 (fun q h => by cases h) ?_ g2
    show va_P D classes ((wd G σ).set a (G.1 + a, .inr (ci, (fs.set k v).map (cv G)))) H1
    rw [List.map_set]
    exact g1
  have hd : parseFieldDescriptor ((cD ci).2.1 k).2.2.1 = some ty := hty
  by_cases hff : ((cD ci).2.1 k).2.2.2 = false
  · rcases hw with ⟨-, hw⟩ | ⟨-, hw⟩
    · exact va_put (C := (cD ci).1) (T := (cD ci).2.1) (N := (cD ci).2.2) hx hb hts (c_ws ci hci) (cty ci) (c_ty ci hci) (c_nm ci hci) hown hX.1 hA.1 (wd_D G σ) hA.2.1 a he (c_at ci hci) k hk hw (fun _ h => h) hff hd hn hfit hl hdg (fun H1 locs1 g1 _ g3 => kk H1 locs1 (hset H1 locs1 g1 g3))
    · exact va_putN (C := (cD ci).1) (T := (cD ci).2.1) (N := (cD ci).2.2) hx hb hts (c_ws ci hci) (cty ci) (c_ty ci hci) (c_nm ci hci) hown hX.1 hA.1 (wd_D G σ) hA.2.1 a he (c_at ci hci) k hk hw (fun _ h => h) hff hd hn hfit hl hdg (fun H1 locs1 g1 _ g3 => kk H1 locs1 (hset H1 locs1 g1 g3))
  · rcases hfin with hfin | ⟨hfin, hmk, hcm⟩
    · exact absurd hfin hff
    · rcases hw with ⟨-, hw⟩ | ⟨hw, -⟩
      · have hdecl : ((cD ci).2.1 k).1 = own m := by
          rw [hO, hcm]
          exact c_dec ci hci k hk
        exact va_putF (C := (cD ci).1) (T := (cD ci).2.1) (N := (cD ci).2.2) hx hb hts (c_ws ci hci) (cty ci) (c_ty ci hci) (c_nm ci hci) hown hX.1 hA.1 (wd_D G σ) hA.2.1 a he (c_at ci hci) k hk hw (fun _ h => h) (by cases h9 : ((cD ci).2.1 k).2.2.2 with | false => exact absurd h9 hff | true => rfl) (hini hmk) hdecl hd hn hfit hl hdg (fun H1 locs1 g1 _ g3 => kk H1 locs1 (hset H1 locs1 g1 g3))
      · exact absurd hfin hw
/-- an array's tag and its kind of element -/
theorem ty_at (t : Nat) (h : t < 4) : (tysF G)[t]? = some (G.2.2.2 t, match t with | 0 => .int | 1 => .byte | 2 => .boolean | _ => .long) := by
  match t, h with
  | 0, _ | 1, _ | 2, _ | 3, _ => rfl
  | n + 4, h => exact absurd h (by omega)
theorem r_iald (C : Ctx G D L xs adV p s mi args meth c m) (hA : AtQ G D L xs s σ H locs) {a : Nat} {i v : Int32} (hv : lI σ a i = some v) (hdg : decode (bc m) pc = .ok (.iaload, 1))
    (kk : W p l e R s mi args below meth c H locs cells slots Q (F0 mi (pc + 1) ls (.int v :: rest))) : W p l e R s mi args below meth c H locs cells slots Q (F0 mi pc ls (.int i :: .ref (adr G a) :: rest)) := by
  obtain ⟨hx, hb, -, -, -, -, -, -, hX⟩ := C
  unfold lI at hv
  split at hv
  · rename_i t n f hc
    cases e9 : ((t == 0 || t == 6) && inb i n) with
    | false => rw [e9] at hv; cases hv
    | true =>
      rw [e9] at hv
      simp only [cond_true, Option.some.injEq] at hv
      simp only [Bool.and_eq_true, Bool.or_eq_true, beq_iff_eq] at e9
      obtain ⟨ht, hi⟩ := e9
      subst hv
      rcases ht with rfl | rfl
      · have ha := wf_arr hA.2.2 hc (by omega)
        rw [adr_lt hA.2.2 ha]
        exact va_iald (cA := G.2.2.2 0) (n := n) (f := f) hx hb hX.1 hA.1 a 0 (by rw [wd_at ha, hc]; rfl) rfl (inb_in hi) hdg kk
      · have hq := wf_out hA.2.2 hc (Nat.le_refl 6)
        rcases ext_t hq with ⟨h1, h2⟩ | ⟨-, h2⟩
        · subst h1
          cases h2
          have hbl : G.2.1 < s.heap.size := by
            obtain ⟨scr, h9, -⟩ := hX.2.2.1
            exact (Array.getElem?_eq_some_iff.mp h9).1
          exact va_sld (b := G.2.1) (L := L) (xs := xs) hx hb hX.2.2.1 hbl (by show ¬ G.1 ≤ G.2.1; have := hX.2.2.2.1; omega) hA.2.1 (inb_in hi) hdg kk
        · cases h2
  · cases hv
theorem r_bald (C : Ctx G D L xs adV p s mi args meth c m) (hA : AtQ G D L xs s σ H locs) {a : Nat} {i v : Int32} (hv : lB σ a i = some v) (hdg : decode (bc m) pc = .ok (.baload, 1))
    (kk : W p l e R s mi args below meth c H locs cells slots Q (F0 mi (pc + 1) ls (.int v :: rest))) : W p l e R s mi args below meth c H locs cells slots Q (F0 mi pc ls (.int i :: .ref (adr G a) :: rest)) := by
  obtain ⟨hx, hb, -, -, -, -, -, -, hX⟩ := C
  unfold lB at hv
  split at hv
  · rename_i t n f hc
    cases e9 : ((t == 1 || t == 2) && inb i n) with
    | false => rw [e9] at hv; cases hv
    | true =>
      rw [e9] at hv
      simp only [cond_true, Option.some.injEq] at hv
      simp only [Bool.and_eq_true, Bool.or_eq_true, beq_iff_eq] at e9
      obtain ⟨ht, hi⟩ := e9
      subst hv
      have ha := wf_arr hA.2.2 hc (by omega)
      rw [adr_lt hA.2.2 ha]
      rcases ht with rfl | rfl
      · exact va_bald (cA := G.2.2.2 1) (n := n) (f := f) hx hb hX.1 hA.1 a 1 (by rw [wd_at ha, hc]; rfl) rfl (inb_in hi) hdg kk
      · exact va_zald (cA := G.2.2.2 2) (n := n) (f := f) hx hb hX.1 hA.1 a 2 (by rw [wd_at ha, hc]; rfl) rfl (inb_in hi) hdg kk
  · cases hv
theorem r_lald (C : Ctx G D L xs adV p s mi args meth c m) (hA : AtQ G D L xs s σ H locs) {a : Nat} {i : Int32} {v : Int64} (hv : lL σ a i = some v) (hdg : decode (bc m) pc = .ok (.laload, 1))
    (kk : W p l e R s mi args below meth c H locs cells slots Q (F0 mi (pc + 1) ls (.long v :: rest))) : W p l e R s mi args below meth c H locs cells slots Q (F0 mi pc ls (.int i :: .ref (adr G a) :: rest)) := by
  obtain ⟨hx, hb, -, -, -, -, -, -, hX⟩ := C
  unfold lL at hv
  split at hv
  · rename_i t n f hc
    cases e9 : (t == 3 && inb i n) with
    | false => rw [e9] at hv; cases hv
    | true =>
      rw [e9] at hv
      simp only [cond_true, Option.some.injEq] at hv
      simp only [Bool.and_eq_true, beq_iff_eq] at e9
      obtain ⟨rfl, hi⟩ := e9
      subst hv
      have ha := wf_arr hA.2.2 hc (by omega)
      rw [adr_lt hA.2.2 ha]
      exact va_lald (cA := G.2.2.2 3) (n := n) (f := f) hx hb hX.1 hA.1 a 3 (by rw [wd_at ha, hc]; rfl) rfl (inb_in hi) hdg kk
  · cases hv
theorem r_iast (C : Ctx G D L xs adV p s mi args meth c m) (hA : AtQ G D L xs s σ H locs) {a : Nat} {i x : Int32} {τ : Mem} (hv : sI σ a i x = some τ) (hdg : decode (bc m) pc = .ok (.iastore, 1))
    (kk : ∀ (H1 : Heap) (locs1 : List Loc), AtQ G D L xs s τ H1 locs1 → W p l e R s mi args below meth c H1 locs1 cells slots Q (F0 mi (pc + 1) ls rest)) : W p l e R s mi args below meth c H locs cells slots Q (F0 mi pc ls (.int x :: .int i :: .ref (adr G a) :: rest)) := by
  obtain ⟨hx, hb, -, -, -, -, -, -, hX⟩ := C
  unfold sI at hv
  split at hv
  · rename_i t n f hc
    cases e9 : (t == 0 && inb i n) with
    | false => rw [e9] at hv; cases hv
    | true =>
      rw [e9] at hv
      simp only [cond_true, Option.some.injEq] at hv
      simp only [Bool.and_eq_true, beq_iff_eq] at e9
      obtain ⟨rfl, hi⟩ := e9
      have ha := wf_arr hA.2.2 hc (by omega)
      rw [adr_lt hA.2.2 ha]
      exact va_iast (cA := G.2.2.2 0) (n := n) (f := f) hx hb hX.1 hA.1 (wd_D G σ) hA.2.1 a 0 (by rw [wd_at ha, hc]; rfl) rfl (inb_in hi) hdg (fun H1 locs1 g1 _ g3 => kk H1 locs1 (At_set hA ha hv.symm (fun q h => by cases h; exact Nat.zero_lt_succ 5) g1 g3))
  · cases hv
theorem r_bast (C : Ctx G D L xs adV p s mi args meth c m) (hA : AtQ G D L xs s σ H locs) {a : Nat} {i x : Int32} {τ : Mem} (hv : sB σ a i x = some τ) (hdg : decode (bc m) pc = .ok (.bastore, 1))
    (kk : ∀ (H1 : Heap) (locs1 : List Loc), AtQ G D L xs s τ H1 locs1 → W p l e R s mi args below meth c H1 locs1 cells slots Q (F0 mi (pc + 1) ls rest)) : W p l e R s mi args below meth c H locs cells slots Q (F0 mi pc ls (.int x :: .int i :: .ref (adr G a) :: rest)) := by
  obtain ⟨hx, hb, -, -, -, -, -, -, hX⟩ := C
  unfold sB at hv
  split at hv
  · rename_i t n f hc
    cases e9 : ((t == 1 || t == 2) && inb i n) with
    | false => rw [e9] at hv; cases hv
    | true =>
      rw [e9] at hv
      simp only [cond_true, Option.some.injEq] at hv
      simp only [Bool.and_eq_true, Bool.or_eq_true, beq_iff_eq] at e9
      obtain ⟨ht, hi⟩ := e9
      have ha := wf_arr hA.2.2 hc (by omega)
      rw [adr_lt hA.2.2 ha]
      rcases ht with rfl | rfl
      · exact va_bast (cA := G.2.2.2 1) (n := n) (f := f) hx hb hX.1 hA.1 (wd_D G σ) hA.2.1 a 1 (by rw [wd_at ha, hc]; rfl) rfl (inb_in hi) hdg (fun H1 locs1 g1 _ g3 => kk H1 locs1 (At_set hA ha hv.symm (fun q h => by cases h; exact (by omega : 1 < 6)) g1 g3))
      · exact va_zast (cA := G.2.2.2 2) (n := n) (f := f) hx hb hX.1 hA.1 (wd_D G σ) hA.2.1 a 2 (by rw [wd_at ha, hc]; rfl) rfl (inb_in hi) hdg (fun H1 locs1 g1 _ g3 => kk H1 locs1 (At_set hA ha hv.symm (fun q h => by cases h; exact (by omega : 2 < 6)) g1 g3))
  · cases hv
theorem r_last (C : Ctx G D L xs adV p s mi args meth c m) (hA : AtQ G D L xs s σ H locs) {a : Nat} {i : Int32} {x : Int64} {τ : Mem} (hv : sL σ a i x = some τ) (hdg : decode (bc m) pc = .ok (.lastore, 1))
    (kk : ∀ (H1 : Heap) (locs1 : List Loc), AtQ G D L xs s τ H1 locs1 → W p l e R s mi args below meth c H1 locs1 cells slots Q (F0 mi (pc + 1) ls rest)) : W p l e R s mi args below meth c H locs cells slots Q (F0 mi pc ls (.long x :: .int i :: .ref (adr G a) :: rest)) := by
  obtain ⟨hx, hb, -, -, -, -, -, -, hX⟩ := C
  unfold sL at hv
  split at hv
  · rename_i t n f hc
    cases e9 : (t == 3 && inb i n) with
    | false => rw [e9] at hv; cases hv
    | true =>
      rw [e9] at hv
      simp only [cond_true, Option.some.injEq] at hv
      simp only [Bool.and_eq_true, beq_iff_eq] at e9
      obtain ⟨rfl, hi⟩ := e9
      have ha := wf_arr hA.2.2 hc (by omega)
      rw [adr_lt hA.2.2 ha]
      exact va_last (cA := G.2.2.2 3) (n := n) (f := f) hx hb hX.1 hA.1 (wd_D G σ) hA.2.1 a 3 (by rw [wd_at ha, hc]; rfl) rfl (inb_in hi) hdg (fun H1 locs1 g1 _ g3 => kk H1 locs1 (At_set hA ha hv.symm (fun q h => by cases h; exact (by omega : 3 < 6)) g1 g3))
  · cases hv
theorem cv_rf (q : Option Nat) : va_rf (q.map (adr G)) = (match q with | none => Value.null | some a => .ref (adr G a)) := by
  cases q <;> rfl
theorem r_aald (C : Ctx G D L xs adV p s mi args meth c m) (hA : AtQ G D L xs s σ H locs) {a : Nat} {i : Int32} {q : Option Nat} (hv : lQ σ a i = some q) (hdg : decode (bc m) pc = .ok (.aaload, 1))
    (kk : W p l e R s mi args below meth c H locs cells slots Q (F0 mi (pc + 1) ls (va_rf (q.map (adr G)) :: rest))) : W p l e R s mi args below meth c H locs cells slots Q (F0 mi pc ls (.int i :: .ref (adr G a) :: rest)) := by
  obtain ⟨hx, hb, -, -, -, -, -, -, hX⟩ := C
  unfold lQ at hv
  split at hv
  · rename_i t n f hc
    cases e9 : ((t == 4 || t == 5) && inb i n) with
    | false => rw [e9] at hv; cases hv
    | true =>
      rw [e9] at hv
      simp only [cond_true, Option.some.injEq] at hv
      simp only [Bool.and_eq_true, Bool.or_eq_true, beq_iff_eq] at e9
      obtain ⟨ht, hi⟩ := e9
      subst hv
      have ha := wf_arr hA.2.2 hc (by omega)
      rw [adr_lt hA.2.2 ha]
      rcases ht with rfl | rfl
      · exact va_aldq (cA := G.2.2.2 4) (C := RX5) (n := n) (f := fun j => (f j).map (adr G)) hx hb hX.1 hA.1 a 4 (by rw [wd_at ha, hc]; rfl) rfl (inb_in hi) hdg kk
      · exact va_aldq (cA := G.2.2.2 5) (C := RX1) (n := n) (f := fun j => (f j).map (adr G)) hx hb hX.1 hA.1 a 5 (by rw [wd_at ha, hc]; rfl) rfl (inb_in hi) hdg kk
  · cases hv
theorem isC_some {ci a : Nat} (h : isC σ ci a = true) : ∃ fs, σ.2.2 a = .inr (ci, fs) := by
  unfold isC at h
  split at h
  · cases h
  · rename_i o ho
    obtain ⟨c, fs⟩ := o
    have : c = ci := by simpa using h
    subst this
    exact ⟨fs, ho⟩
theorem up_map (f : Nat → Option Nat) (k : Nat) (x : Option Nat) : (fun j => (va_up f k x j).map (adr G)) = va_up (fun j => (f j).map (adr G)) k (x.map (adr G)) := by
  funext j
  unfold va_up
  split <;> rfl
theorem sQ_some {σ τ : Mem} {a : Nat} {i : Int32} {x : Option Nat} (h : sQ σ a i x = some τ) : ∃ t n f, σ.2.2 a = .inl (t, n, .inr (.inr (.inr (.inr f)))) ∧ (t = 4 ∨ t = 5) ∧ inb i n = true ∧ (∀ v, x = some v → isC σ (bif t == 4 then 5 else 1) v = true) ∧ τ = setC σ a (.inl (t, n, .inr (.inr (.inr (.inr (va_up f i.toNatClampNeg x)))))) := by
  unfold sQ at h
  split at h
  · rename_i t n f hc
    cases x with
    | none =>
      dsimp only at h
      cases e9 : ((t == 4 || t == 5) && inb i n && true) with
      | false => rw [e9] at h; cases h
      | true =>
        rw [e9] at h
        simp only [cond_true, Option.some.injEq] at h
        simp only [Bool.and_eq_true, Bool.or_eq_true, beq_iff_eq] at e9
        exact ⟨t, n, f, hc, e9.1.1, e9.1.2, fun v hv => (by cases hv), h.symm⟩
    | some v =>
      dsimp only at h
      cases e9 : ((t == 4 || t == 5) && inb i n && isC σ (bif t == 4 then 5 else 1) v) with
      | false => rw [e9] at h; cases h
      | true =>
        rw [e9] at h
        simp only [cond_true, Option.some.injEq] at h
        simp only [Bool.and_eq_true, Bool.or_eq_true, beq_iff_eq] at e9
        exact ⟨t, n, f, hc, e9.1.1, e9.1.2, fun w hw => (by cases hw; exact e9.2), h.symm⟩
  · cases h
theorem r_aast (C : Ctx G D L xs adV p s mi args meth c m) (hA : AtQ G D L xs s σ H locs) {a : Nat} {i : Int32} {x : Option Nat} {τ : Mem} (hv : sQ σ a i x = some τ) (hdg : decode (bc m) pc = .ok (.aastore, 1))
    (kk : ∀ (H1 : Heap) (locs1 : List Loc), AtQ G D L xs s τ H1 locs1 → W p l e R s mi args below meth c H1 locs1 cells slots Q (F0 mi (pc + 1) ls rest)) : W p l e R s mi args below meth c H locs cells slots Q (F0 mi pc ls (va_rf (x.map (adr G)) :: .int i :: .ref (adr G a) :: rest)) := by
  obtain ⟨hx, hb, -, -, -, -, -, -, hX⟩ := C
  obtain ⟨t, n, f, hc, ht, hi, hxc, hv⟩ := sQ_some hv
  have ha := wf_arr hA.2.2 hc (by omega)
  rw [adr_lt hA.2.2 ha]
  have hk : ∀ (H1 : Heap) (locs1 : List Loc), va_P D classes ((wd G σ).set a (G.1 + a, .inl (G.2.2.2 t, n, .inr (.inr (.inr (.inr (va_up (fun j => (f j).map (adr G)) i.toNatClampNeg (x.map (adr G))))))))) H1 → va_S (fun q => G.1 ≤ q) s.heap H1 locs1 → W p l e R s mi args below meth c H1 locs1 cells slots Q (F0 mi (pc + 1) ls rest) := by
    intro H1 locs1 g1 g3
    refine kk H1 locs1 (At_set hA ha hv (fun q h => by cases h; show t < 6; omega) ?_ g3)
    show va_P D classes ((wd G σ).set a (G.1 + a, .inl (G.2.2.2 t, n, .inr (.inr (.inr (.inr (fun j => (va_up f i.toNatClampNeg x j).map (adr G)))))))) H1
    rw [up_map]
    exact g1
  have he : (wd G σ)[a]? = some (G.1 + a, .inl (G.2.2.2 t, n, .inr (.inr (.inr (.inr (fun j => (f j).map (adr G))))))) := by rw [wd_at ha, hc]; rfl
  cases x with
  | none =>
    rcases ht with rfl | rfl
    · exact va_astqN (cA := G.2.2.2 4) (C := RX5) (n := n) hx hb hX.1 hA.1 (wd_D G σ) hA.2.1 a 4 he rfl (inb_in hi) hdg (fun H1 locs1 g1 _ g3 => hk H1 locs1 g1 g3)
    · exact va_astqN (cA := G.2.2.2 5) (C := RX1) (n := n) hx hb hX.1 hA.1 (wd_D G σ) hA.2.1 a 5 he rfl (inb_in hi) hdg (fun H1 locs1 g1 _ g3 => hk H1 locs1 g1 g3)
  | some v =>
    show W p l e R s mi args below meth c H locs cells slots Q (F0 mi pc ls (.ref (adr G v) :: .int i :: .ref (G.1 + a) :: rest))
    rcases ht with rfl | rfl
    · obtain ⟨fs, hfs⟩ := isC_some (show isC σ 5 v = true from hxc v rfl)
      have hv5 := wf_obj hA.2.2 hfs (by omega)
      have hav : adr G v = G.1 + v := adr_lt hA.2.2 hv5
      refine va_astq (cA := G.2.2.2 4) (r := cD 5) (n := n) (vs := fs.map (cv G)) hx hb hX.1 hA.1 (wd_D G σ) hA.2.1 a 4 v 5 he rfl (by rw [wd_at hv5, hfs, hav]; rfl) rfl (inb_in hi) hdg (fun H1 locs1 g1 _ g3 => hk H1 locs1 g1 g3)
    · obtain ⟨fs, hfs⟩ := isC_some (show isC σ 1 v = true from hxc v rfl)
      have hv5 := wf_obj hA.2.2 hfs (by omega)
      have hav : adr G v = G.1 + v := adr_lt hA.2.2 hv5
      refine va_astq (cA := G.2.2.2 5) (r := cD 1) (n := n) (vs := fs.map (cv G)) hx hb hX.1 hA.1 (wd_D G σ) hA.2.1 a 5 v 1 he rfl (by rw [wd_at hv5, hfs, hav]; rfl) rfl (inb_in hi) hdg (fun H1 locs1 g1 _ g3 => hk H1 locs1 g1 g3)
theorem r_alen (C : Ctx G D L xs adV p s mi args meth c m) (hA : AtQ G D L xs s σ H locs) {a : Nat} {v : Int32} (hv : aln σ a = some v) (hdg : decode (bc m) pc = .ok (.arraylength, 1))
    (kk : W p l e R s mi args below meth c H locs cells slots Q (F0 mi (pc + 1) ls (.int v :: rest))) : W p l e R s mi args below meth c H locs cells slots Q (F0 mi pc ls (.ref (adr G a) :: rest)) := by
  obtain ⟨hx, hb, -, -, -, -, -, -, hX⟩ := C
  unfold aln at hv
  split at hv
  · rename_i t n f hc
    cases e9 : Nat.blt t 7 with
    | false => rw [e9] at hv; cases hv
    | true =>
      rw [e9] at hv
      simp only [cond_true, Option.some.injEq] at hv
      have ht : t < 7 := by simpa [Nat.blt_eq] using e9
      subst hv
      by_cases h6 : t = 6
      · subst h6
        have hq := wf_out hA.2.2 hc (Nat.le_refl 6)
        rcases ext_t hq with ⟨h1, h2⟩ | ⟨-, h2⟩
        · subst h1
          cases h2
          have hbl : G.2.1 < s.heap.size := by
            obtain ⟨scr, h9, -⟩ := hX.2.2.1
            exact (Array.getElem?_eq_some_iff.mp h9).1
          exact va_slen (b := G.2.1) (L := L) (xs := xs) hx hb hX.2.2.1 hbl (by show ¬ G.1 ≤ G.2.1; have := hX.2.2.2.1; omega) hA.2.1 hdg kk
        · cases h2
      · have ht6 : t < 6 := by omega
        have ha := wf_arr hA.2.2 hc ht6
        rw [adr_lt hA.2.2 ha]
        have he : (wd G σ)[a]? = some (G.1 + a, .inl (G.2.2.2 t, n, cct G f)) := by rw [wd_at ha, hc]; rfl
        have hty : ∃ ty, (tysF G)[t]? = some (G.2.2.2 t, ty) := by
          match t, ht6 with
          | 0, _ | 1, _ | 2, _ | 3, _ | 4, _ | 5, _ => exact ⟨_, rfl⟩
          | n + 6, h => exact absurd h (by omega)
        obtain ⟨ty, hty⟩ := hty
        exact va_alen (cA := G.2.2.2 t) (x := (n, cct G f)) hx hb hX.1 hA.1 a t he hty rfl hdg kk
  · cases hv
end ROWS
