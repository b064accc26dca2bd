/-! ===== rows: arrays of references, copies, calls ===== -/
theorem aow5 : Cond.arrayOver (.object RX5) ∈ lw_tbl := by decide +kernel
theorem aow1 : Cond.arrayOver (.object RX1) ∈ lw_tbl := by decide +kernel
theorem acw : Cond.native arraycopyName ∈ lw_tbl ∧ Cond.static arraycopyName ∈ lw_tbl ∧ Cond.initialized "java/lang/System" ∈ lw_tbl := by decide +kernel
theorem oiw : Cond.instanceMethod objectInit ∈ lw_tbl := by decide +kernel
theorem oic : Cond.code objectInit ⟨#[0xb1]⟩ 1 none ∈ lw_tbl := by decide +kernel
theorem ckD : ∀ m, m < 274 → (yT m).cls ≠ "java/lang/invoke/MethodHandle" ∧ (yT m).cls ≠ "java/lang/invoke/VarHandle" ∧ (parseMethodDescriptor (yT m).desc).map (fun d => d.parameters.length) = some (mna.getD m 0) ∧ (mkd.getD m 9 = 1 → (yT m).name = "<init>") ∧ plainName (yT m).cls = true ∧ mxL m ≤ 20 := by decide +kernel
def wsM (m : Nat) : List Cond := Cond.code (yT m) (bc m) (mxL m) (rtT m) :: GW
theorem code_in (m : Nat) (h : m < 276) : Cond.code (yT m) (bc m) (mxL m) (rtT m) ∈ GW := List.mem_filter.mpr ⟨ckB m h, rfl⟩
theorem good_GW : GoodIn GW GW := fun w h => ⟨h, gw_good h⟩
theorem good_ws (m : Nat) (h : m < 276) : GoodIn GW (wsM m) := by
  intro w hw
  rcases List.mem_cons.mp hw with rfl | hw
  · exact ⟨code_in m h, gw_good (code_in m h)⟩
  · exact good_GW w hw
def rmD (d mc ms : Nat) : Room := { frames := d + 4, cells := mc, slots := ms, locals := 60 * (d + 4) }
def PPc (G : GP) (D : va_G) (L : Nat) (xs : Nat → Int32) (adV : Nat → Nat) (av : List Value) (σ : Mem) : Array Value → State → Prop := fun v U => v = (av.map (cv G)).toArray ∧ U.heap.size = G.1 + σ.1 ∧ va_P D classes (wd G σ) U.heap ∧ XX G D L xs adV U
def QQc (G : GP) (D : va_G) (r : Option Value) (σ' : Mem) : Array Value → State → Outcome → State → Prop := fun _ st o t => o = .returned (r.map (cv G)) ∧ va_P D classes (wd G σ') t.heap ∧ va_F (fun q => G.1 ≤ q) st t
theorem PPc_blind (G : GP) (D : va_G) (L : Nat) (xs : Nat → Int32) (adV : Nat → Nat) (av : List Value) (σ : Mem) : FrameBlind (PPc G D L xs adV av σ) := fun _ _ _ _ h => ⟨h.1, h.2.1, h.2.2.1, h.2.2.2.same rfl rfl⟩
/-- a method of the small machine, met by the great one -/
def MetS (G : GP) (D : va_G) (L : Nat) (xs : Nat → Int32) (adV : Nat → Nat) (l : Launch) (d m : Nat) (av : List Value) (σ : Mem) (r : Option Value) (σ' : Mem) : Prop :=
  Met l (yT m) (wsM m) (rmD d (σ'.1 - σ.1) (σ'.2.1 - σ.2.1)) (PPc G D L xs adV av σ) (QQc G D r σ') (σ'.1 - σ.1) (σ'.2.1 - σ.2.1) (fun q => G.1 ≤ q)
theorem room_ar {z d x : Nat} (h1 : z ≤ 20) (h2 : 60 * (d + 5) ≤ x) : 8 + (z + 11) + 60 * (d + 4) ≤ x := by omega
section ROWS4
variable {G : GP} {D : va_G} {L : Nat} {xs : Nat → Int32} {adV : Nat → Nat} {p : Program} {l : Launch} {e : Env} {R : Room} {s : State} {mi : MethodId} {args : Array Value} {below : List Frame} {meth : Method} {c : Code} {H : Heap} {locs : List Loc} {cells slots : Nat} {Q : State → Prop}
  {m pc : Nat} {ls : Array Slot} {rest : List Value} {σ : Mem}
theorem cl_word (C : Ctx G D L xs adV p s mi args meth c m) (hm : m < 277) {i ci : Nat} (hf : ∃ q ∈ CLk, q.1 = cNo m ∧ q.2.1 = i ∧ q.2.2.1 = ci) : (Cond.classLink (own m) i (cnm.getD ci "")).before args s = true := by
  obtain ⟨q, hq, e1, e2, e3⟩ := hf
  have hw := ckC q hq
  obtain ⟨a1, a2, a3, a4⟩ := q
  dsimp only at e1 e2 e3 hw
  subst e1; subst e2; subst e3
  rw [← ckO m hm] at hw
  obtain ⟨hx, hb, -, hown, -, -, -, hts, hX⟩ := C
  exact hts _ (gw_of hw rfl)
theorem r_anewa (C : Ctx G D L xs adV p s mi args meth c m) (hm : m < 277) (hA : AtQ G D L xs s σ H locs) {n0 i t ci : Nat} {n : Int32} {q : Nat × Mem} (h0 : s.heap.size = G.1 + n0) (hc : cells + n0 = σ.1) (hbig : σ.1 + 1 ≤ 1000000) (ht : (t = 4 ∧ ci = 5) ∨ (t = 5 ∧ ci = 1)) (hf : ∃ q ∈ CLk, q.1 = cNo m ∧ q.2.1 = i ∧ q.2.2.1 = ci) (hv : newA σ t n = some q)
    (hcl : cells + 1 ≤ R.cells) (hsl : slots + n.toNatClampNeg ≤ R.slots) (hdg : decode (bc m) pc = .ok (.anewarray i, 3))
    (kk : ∀ (H1 : Heap), AtQ G D L xs s q.2 H1 locs → W p l e R s mi args below meth c H1 locs (cells + 1) (slots + n.toNatClampNeg) Q (F0 mi (pc + 3) ls (.ref (adr G q.1) :: rest))) :
    W p l e R s mi args below meth c H locs cells slots Q (F0 mi pc ls (.int n :: rest)) := by
  have hcw := cl_word C hm hf
  obtain ⟨hx, hb, -, hown, -, -, -, hts, hX⟩ := C
  obtain ⟨hn, hN, rfl⟩ := newA_some hv
  dsimp only at kk
  have fin : ∀ (Cn : String), (Cond.classLink (own m) i Cn).before args s = true → va_AO Cn s → t < 6 → (tysF G)[t]? = some (G.2.2.2 t, .object Cn) →
      (bif t == 3 then (.inr (.inl (fun _ => 0)) : (Nat → Int32) ⊕ (Nat → Int64) ⊕ (Nat → UInt32) ⊕ (Nat → UInt64) ⊕ (Nat → Option Nat)) else bif t == 4 || t == 5 then .inr (.inr (.inr (.inr (fun _ => none)))) else .inl (fun _ => 0)) = .inr (.inr (.inr (.inr (fun _ => none)))) →
      W p l e R s mi args below meth c H locs cells slots Q (F0 mi pc ls (.int n :: rest)) := by
    intro Cn e1 e2 hlt e3 e5
    refine va_newq hx hb hown e1 e2 hX.1 hA.1 (wd_D G σ) hA.2.1 (fun q h => by show G.1 ≤ q; omega) hn rfl (by omega) hcl hsl hdg (fun q cA H1 hK hP hD hS => ?_)
    refine W_sz (fun hz => ?_)
    have hqe := new_name h0 hc hP hD hz
    have had : adr G σ.1 = q := by
      unfold adr
      rw [if_pos (by omega), hqe]
    have hcA : cA = G.2.2.2 t := by
      have g1 := (hK.2 6 (cA, .object Cn) rfl).2
      have g2 := (hX.1.2 t _ e3).2
      exact RA_eq g1 g2
    rw [← had]
    refine kk H1 ⟨?_, hS, wf_add hA.2.2 hbig (fun q h => by cases h; exact hlt)⟩
    rw [wd_add]
    show va_P D classes (wd G σ ++ [(G.1 + σ.1, .inl (G.2.2.2 t, n.toNatClampNeg, cct G _))]) H1
    rw [e5, ← hcA, ← hqe]
    exact hP
  rcases ht with ⟨rfl, rfl⟩ | ⟨rfl, rfl⟩
  · exact fin RX5 hcw hX.2.2.2.2.2.2.2.1 (by omega) rfl rfl
  · exact fin RX1 hcw hX.2.2.2.2.2.2.2.2.1 (by omega) rfl rfl
theorem r_cp (C : Ctx G D L xs adV p s mi args meth c m) (hm : m < 277) (hA : AtQ G D L xs s σ H locs) {i a b : Nat} {sp dp n : Int32} {τ : Mem} (hf : ∃ q ∈ ACk, q.1 = cNo m ∧ q.2.1 = i) (hv : cpI σ b sp a dp n = some τ) (hls : ls.size = mxL m)
    (hfr : 1 ≤ R.frames) (hlo : 60 ≤ R.locals) (hr : (rest.map fun v => v.category).sum ≤ 8) (hdg : decode (bc m) pc = .ok (.invokestatic i, 3))
    (kk : ∀ (H1 : Heap) (locs1 : List Loc), AtQ G D L xs s τ H1 locs1 → W p l e R s mi args below meth c H1 locs1 cells slots Q (F0 mi (pc + 3) ls rest)) :
    W p l e R s mi args below meth c H locs cells slots Q (F0 mi pc ls (.int n :: .int dp :: .ref (adr G a) :: .int sp :: .ref (adr G b) :: rest)) := by
  obtain ⟨q, hq, e1, e2⟩ := hf
  have hw := ckAC q hq
  obtain ⟨a1, a2, a3⟩ := q
  dsimp only at e1 e2 hw
  subst e1; subst e2
  rw [← ckO m hm] at hw
  obtain ⟨n0, f, n1, g, hb0, ha0, h1, h2, h3, h4, h5, he⟩ := cpI_some hv
  obtain ⟨hx, hb, hml, hown, -, -, -, hts, hX⟩ := C
  have hal := wf_arr hA.2.2 ha0 (by omega)
  have hbl := wf_arr hA.2.2 hb0 (by omega)
  rw [adr_lt hA.2.2 hal, adr_lt hA.2.2 hbl]
  refine va_copyi (ty := .int) hx hb (by rw [hml, hls]) hown (hts _ (gw_of hw rfl)) (hts _ (List.mem_filter.mpr ⟨acw.1, rfl⟩)) (hts _ (List.mem_filter.mpr ⟨acw.2.1, rfl⟩)) (hts _ (List.mem_filter.mpr ⟨acw.2.2, rfl⟩)) hX.1 hA.1 (wd_D G σ) hA.2.1 b a 0 0 (c0 := G.2.2.2 0) (c1 := G.2.2.2 0) (n0 := n0) (n1 := n1) (f := f) (g := g) (by rw [wd_at hbl, hb0]; rfl) (by rw [wd_at hal, ha0]; rfl) rfl rfl rfl h1 h2 h3 h4 h5 (fun _ _ => rfl) hfr ?_ hdg (fun H1 locs1 g1 _ g3 => kk H1 locs1 (At_set hA hal he (fun q h => by cases h; exact Nat.zero_lt_succ 5) g1 g3))
  have : nativeFrameWords "java/lang/System" "arraycopy" 5 ≤ 30 := by decide
  omega
/-- behind a call -/
theorem W_call {mc ms : Nat} {Qa : State → Outcome → State → Prop} {free : Addr → Prop} {st0 : List Value} {A : Nat → Prop} (hr : va_Run p l e R s mi args below meth c H locs cells slots mc ms (F0 mi pc ls st0) rest Qa free) (hS : va_S A s.heap H locs) (hf : ∀ q, free q → A q) (hF : ∀ st v t, Qa st (.returned v) t → va_F A st t)
    (kk : ∀ (v : Option Value) (st t : State) (locs1 : List Loc), Qa st (.returned v) t → st.heap = H → va_S A s.heap t.heap locs1 → W p l e R s mi args below meth c t.heap locs1 (cells + mc) (slots + ms) Q (F0 mi (pc + 3) ls (v.toList ++ rest))) : W p l e R s mi args below meth c H locs cells slots Q (F0 mi pc ls st0) := by
  intro T hT X
  obtain ⟨v, st₀, t, T', LL, h0, X', hL, e1, e2, hq, st⟩ := hr T hT X
  obtain ⟨hz, hk⟩ := hF _ _ _ hq
  rw [h0] at hz hk
  have hS' : va_S A s.heap t.heap (locs ++ LL) := ⟨Nat.le_trans hS.1 hz, fun q h1 h2 => by rw [hk q (Nat.lt_of_lt_of_le h1 hS.1) h2]; exact hS.2.1 q h1 h2, fun q hq' => by
      rcases List.mem_append.mp hq' with h | h
      · exact hS.2.2 q h
      · exact hf _ (hL q h)⟩
  obtain ⟨t2, a1, b1⟩ := kk v st₀ t (locs ++ LL) hq h0 hS' T' e1 X'
  exact ⟨t2, st t2 a1, b1⟩
theorem ml_word (C : Ctx G D L xs adV p s mi args meth c m) (hm : m < 277) {i mt : Nat} {q : Nat × Nat × Nat × Nat × Nat} (hq : q ∈ MLk) (e1 : q.1 = cNo m) (e2 : q.2.1 = i) (e3 : q.2.2.1 = mt) :
    (q.2.2.2.1 = 0 ∧ (Cond.methodLink (own m) i (yT mt)).before args s = true) ∨ (q.2.2.2.1 ≠ 0 ∧ va_Nw (.methodLinkNest (own m) i (yT mt) "TallySticks") s) := by
  obtain ⟨-, -, -, -, -, -, -, hts, hX⟩ := C
  have h1 := ckM q hq
  obtain ⟨a, b, c, n, j⟩ := q
  dsimp only at e1 e2 e3 h1 ⊢
  subst e1; subst e2; subst e3
  rw [ckO m hm]
  unfold mWord at h1
  by_cases hn : n = 0
  · subst hn
    exact Or.inl ⟨rfl, hts _ (gw_of h1 rfl)⟩
  · have hn' : (n == 0) = false := by simpa using hn
    dsimp only at h1
    rw [hn'] at h1
    exact Or.inr ⟨hn, hX.2.1 _ (List.mem_filter.mpr ⟨List.mem_of_getElem? h1, rfl⟩)⟩
theorem ini_word (C : Ctx G D L xs adV p s mi args meth c m) {mt : Nat} (h : mt < 276) : (Cond.initialized (yT mt).cls).before args s = true := by
  obtain ⟨-, -, -, -, -, -, -, hts, -⟩ := C
  exact hts _ (gw_of (ckT mt h).1 rfl)
theorem cat_cv (v : Value) : (cv G v).category = v.category := by cases v <;> rfl
theorem cat_sum (rs : List Value) : ((rs.map (cv G)).map fun v => v.category).sum = (rs.map fun v => v.category).sum := by
  rw [List.map_map]
  congr 1
  apply List.map_congr_left
  intro v _
  exact cat_cv v
/-- a call of a method that the small machine runs -/
theorem r_call (C : Ctx G D L xs adV p s mi args meth c m) (hm : m < 277) (hA : AtQ G D L xs s σ H locs) {n0 d d' mt kd i : Nat} {av rs : List Value} {r : Option Value} {τ : Mem} {st0 : List Value} (h0 : s.heap.size = G.1 + n0) (hc : cells + n0 = σ.1) (hmt : mt < 274)
    (hq : ∃ q ∈ MLk, q.1 = cNo m ∧ q.2.1 = i ∧ q.2.2.1 = mt ∧ (kd = 0 → q.2.2.2.1 = 0)) (hkd : mkd.getD mt 9 = kd) (hM : MetS G D L xs adV l d' mt av σ r τ) (hle : Le σ τ) (hwf : wfM L xs τ) (hls : ls.size = mxL m)
    (hRf : d' + 5 ≤ R.frames) (hRl : 60 * (d' + 5) ≤ R.locals) (hcl : cells + (τ.1 - σ.1) ≤ R.cells) (hsl : slots + (τ.2.1 - σ.2.1) ≤ R.slots) (hrs : (rs.map fun v => v.category).sum ≤ 8)
    (hk : (kd = 0 ∧ av.length = mna.getD mt 0 ∧ decode (bc m) pc = .ok (.invokestatic i, 3)) ∨ (∃ a as ci, av = .ref a :: as ∧ as.length = mna.getD mt 0 ∧ isC σ ci a = true ∧ ci < 10 ∧ cnm.getD ci "" = own mt ∧ ((kd = 1 ∧ rtT mt = none ∧ decode (bc m) pc = .ok (.invokespecial i, 3)) ∨ (kd = 2 ∧ decode (bc m) pc = .ok (.invokevirtual i, 3)))))
    (hst : st0 = (av.map (cv G)).reverse ++ rs.map (cv G))
    (kk : ∀ (H1 : Heap) (locs1 : List Loc), AtQ G D L xs s τ H1 locs1 → W p l e R s mi args below meth c H1 locs1 (cells + (τ.1 - σ.1)) (slots + (τ.2.1 - σ.2.1)) Q (F0 mi (pc + 3) ls ((r.map (cv G)).toList ++ rs.map (cv G)))) :
    W p l e R s mi args below meth c H locs cells slots Q (F0 mi pc ls st0) := by
  refine W_sz (fun hz => ?_)
  have hsz := At_size hA h0 hc hz
  obtain ⟨q, hqm, e1, e2, e3, e4⟩ := hq
  have hw := ml_word C hm hqm e1 e2 e3
  have hini := ini_word (mt := mt) C (Nat.lt_trans hmt (by decide))
  obtain ⟨g1, g2, g3, g4, g5, g6⟩ := ckD mt hmt
  have hT := ckT mt (by omega)
  have hx := C.1
  have hb := C.2.1
  have hml := C.2.2.1
  have hown := C.2.2.2.1
  have hts := C.2.2.2.2.2.2.2.1
  have hX := C.2.2.2.2.2.2.2.2
  have hfix : CallFix p mi c (bc m) (mxL m) s args GW (own m) := ⟨hx, hb, hml, hown, hts⟩
  have hroom : (rmD d' (τ.1 - σ.1) (τ.2.1 - σ.2.1)).frames + 1 ≤ R.frames ∧ 8 + (mxL mt + 11) + (rmD d' (τ.1 - σ.1) (τ.2.1 - σ.2.1)).locals ≤ R.locals := by
    constructor
    · exact hRf
    · exact room_ar g6 hRl
  have hmon : 2 * (F0 mi pc ls st0).monitorRoom + ((rs.map (cv G)).map fun v => v.category).sum ≤ 8 := lv_room (by rw [cat_sum]; exact hrs)
  have hPre : ∀ U : State, U.heap = H → s.WarmedH U.vm → PPc G D L xs adV av σ (av.map (cv G)).toArray U := fun U hU hW => ⟨rfl, by rw [hU]; exact hsz, by rw [hU]; exact hA.1, hX.go hW (by rw [hU]; exact hA.2.1)⟩
  have hret : ∀ (Qa : State → Outcome → State → Prop), (∀ st v t, Qa st (.returned v) t → QQc G D r τ #[] st (.returned v) t) → va_Run p l e R s mi args below meth c H locs cells slots (τ.1 - σ.1) (τ.2.1 - σ.2.1) (F0 mi pc ls st0) (rs.map (cv G)) Qa (fun q => G.1 ≤ q) → W p l e R s mi args below meth c H locs cells slots Q (F0 mi pc ls st0) := by
    intro Qa hQa hr
    refine W_call hr hA.2.1 (fun _ h => h) (fun st v t h => (hQa st v t h).2.2) (fun v st t locs1 h _ hS => ?_)
    obtain ⟨hv, hP, -⟩ := hQa st v t h
    cases hv
    exact kk t.heap locs1 ⟨hP, hS, hwf⟩
  rcases hk with ⟨k0, kl, hdg⟩ | ⟨a, as, ci, rfl, kl, hisC, hci, hcn, hk⟩
  · subst k0
    rcases hw with ⟨-, hw⟩ | ⟨hw, -⟩
    · have hcb : CallB R s args (own m) i (yT mt) (bc mt) (mxL mt) (rtT mt) (wsM mt) (rmD d' (τ.1 - σ.1) (τ.2.1 - σ.2.1)) (τ.1 - σ.1) (τ.2.1 - σ.2.1) (mna.getD mt 0) := callB_of (mna.getD mt 0) hts (good_ws mt (by omega)) rfl rfl rfl hini hw ⟨g1, g2, g3⟩ hroom
      refine hret _ (fun _ _ _ h => h) (va_runS (As := av.map (cv G)) hfix hM ⟨hcb, hts _ (gw_of (hT.2.1 hkd) rfl)⟩ ⟨PPc_blind _ _ _ _ _ _ _, hPre⟩ rfl (by rw [List.length_map]; exact kl) hls hst hmon hdg ⟨hcl, hsl⟩)
    · exact absurd (e4 rfl) hw
  · obtain ⟨fs, hfs⟩ := isC_some hisC
    have hal := wf_obj hA.2.2 hfs hci
    have had : adr G a = G.1 + a := adr_lt hA.2.2 hal
    have hst' : st0 = (as.map (cv G)).reverse ++ .ref (adr G a) :: rs.map (cv G) := by
      rw [hst]
      simp [cv]
    have hinst : (Cond.instanceMethod (yT mt)).before args s = true := hts _ (gw_of (hT.2.2.1 (by rcases hk with ⟨h, -⟩ | ⟨h, -⟩ <;> (rw [hkd, h]; decide))) rfl)
    have hrecv : ∃ cell : Cell, H[adr G a]? = some cell ∧ cell.vm.isStatics = false ∧ s.vm.findClass (own mt) = some cell.cls := by
      have h9 := va_recv (ci := ci) (q := ((cD ci).1, (cD ci).2.1, (cD ci).2.2)) (fs := fs.map (cv G)) (a := G.1 + a) (q0 := a) hX.1 hA.1 (c_at ci hci) (by rw [wd_at hal, hfs]; rfl)
      rw [had, ← hcn, ← (c_ck ci hci).2.1]
      exact h9
    have hpre2 : PreS s H (PPc G D L xs adV (.ref a :: as) σ) (.ref (adr G a) :: as.map (cv G)) := ⟨PPc_blind _ _ _ _ _ _ _, fun U h1 h2 => hPre U h1 h2⟩
    have hprev : PreV s H (own mt) (adr G a) (PPc G D L xs adV (.ref a :: as) σ) (as.map (cv G)) := ⟨PPc_blind _ _ _ _ _ _ _, hrecv, fun U h1 h2 => hPre U h1 h2⟩
    rcases hk with ⟨k1, hrt, hdg⟩ | ⟨k2, hdg⟩
    · have hnm := g4 (by rw [hkd, k1])
      rcases hw with ⟨-, hw⟩ | ⟨-, hw⟩
      · have hcb : CallB R s args (own m) i (yT mt) (bc mt) (mxL mt) none (wsM mt) (rmD d' (τ.1 - σ.1) (τ.2.1 - σ.2.1)) (τ.1 - σ.1) (τ.2.1 - σ.2.1) (mna.getD mt 0) := callB_of (mna.getD mt 0) hts (good_ws mt (by omega)) (by rw [← hrt]; rfl) rfl rfl hini hw ⟨g1, g2, g3⟩ hroom
        exact hret _ (fun _ _ _ h => h) (va_runI (As := as.map (cv G)) hfix hM ⟨hcb, hnm, hinst⟩ hpre2 rfl (by rw [List.length_map]; exact kl) hls hst' hmon hdg ⟨hcl, hsl⟩)
      · have hcn' : va_CN R s args (own m) i (yT mt) "TallySticks" (bc mt) (mxL mt) none (wsM mt) (rmD d' (τ.1 - σ.1) (τ.2.1 - σ.2.1)) (τ.1 - σ.1) (τ.2.1 - σ.2.1) (mna.getD mt 0) := va_cnB (mna.getD mt 0) hts (good_ws mt (by omega)) (by rw [← hrt]; rfl) rfl rfl hw hini ⟨g1, g2, g3⟩ hroom
        exact hret _ (fun _ _ _ h => h) (va_runIN (As := as.map (cv G)) hfix hM ⟨hcn', hnm, hinst⟩ hpre2 rfl (by rw [List.length_map]; exact kl) hls hst' hmon hdg ⟨hcl, hsl⟩)
    · have hsel : (Cond.selects (own mt) (yT mt) (yT mt)).before args s = true := hts _ (gw_of (hT.2.2.2 (by rw [hkd, k2])) rfl)
      rcases hw with ⟨-, hw⟩ | ⟨-, hw⟩
      · have hcb : CallB R s args (own m) i (yT mt) (bc mt) (mxL mt) (rtT mt) (wsM mt) (rmD d' (τ.1 - σ.1) (τ.2.1 - σ.2.1)) (τ.1 - σ.1) (τ.2.1 - σ.2.1) (mna.getD mt 0) := callB_of (mna.getD mt 0) hts (good_ws mt (by omega)) rfl rfl rfl hini hw ⟨g1, g2, g3⟩ hroom
        exact hret _ (fun _ _ _ h => h) (va_runV (As := as.map (cv G)) hfix hM ⟨hcb, hinst, hsel⟩ hprev rfl (by rw [List.length_map]; exact kl) hls hst' hmon hdg ⟨hcl, hsl⟩)
      · have hcn' : va_CN R s args (own m) i (yT mt) "TallySticks" (bc mt) (mxL mt) (rtT mt) (wsM mt) (rmD d' (τ.1 - σ.1) (τ.2.1 - σ.2.1)) (τ.1 - σ.1) (τ.2.1 - σ.2.1) (mna.getD mt 0) := va_cnB (mna.getD mt 0) hts (good_ws mt (by omega)) rfl rfl rfl hw hini ⟨g1, g2, g3⟩ hroom
        exact hret _ (fun _ _ _ h => h) (va_runVN (As := as.map (cv G)) hfix hM ⟨hcn', hinst, hsel⟩ hprev rfl (by rw [List.length_map]; exact kl) hls hst' hmon hdg ⟨hcl, hsl⟩)
end ROWS4
