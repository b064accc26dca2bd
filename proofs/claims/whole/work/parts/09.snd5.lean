/-! ===== soundness: what the small machine runs, the great one does (cases printed by wip/whole/mksnd.py) ===== -/
def RetI (m : Nat) (r : Option Value) (pc : Nat) : Prop := match r with
  | none => decode (bc m) pc = .ok (.return_, 1) ∧ rtT m = none
  | some (.int v) => decode (bc m) pc = .ok (.ireturn, 1) ∧ (rtT m = some .int ∨ (rtT m = some .boolean ∧ okZ v = true))
  | some (.long _) => decode (bc m) pc = .ok (.lreturn, 1) ∧ rtT m = some .long
  | some (.ref _) => decode (bc m) pc = .ok (.areturn, 1) ∧ isRT (rtT m) = true
  | some .null => decode (bc m) pc = .ok (.areturn, 1) ∧ isRT (rtT m) = true
  | _ => False
/-- from here on the run ends with r and σ' -/
def Runs (G : GP) (D : va_G) (L : Nat) (xs : Nat → Int32) (adV : Nat → Nat) (l : Launch) (d m pc : Nat) (ls : Ls) (st : List Value) (σ : Mem) (r : Option Value) (σ' : Mem) : Prop :=
  ∀ (p : Program) (e : Env) (R : Room) (s : State) (mi : MethodId) (args : Array Value) (below : List Frame) (meth : Method) (c : Code) (H : Heap) (locs : List Loc) (cells slots : Nat) (Q : State → Prop) (lsA : Array Slot) (n0 : Nat),
    Ctx G D L xs adV p s mi args meth c m → AtQ G D L xs s σ H locs → lv_has lsA (mxL m) (ls.map (cvl G)) → s.heap.size = G.1 + n0 → cells + n0 = σ.1 → σ'.1 ≤ R.cells + n0 → slots + σ'.2.1 ≤ R.slots + σ.2.1 → d + 4 ≤ R.frames → 60 * (d + 4) ≤ R.locals →
    (∀ (H1 : Heap) (locs1 : List Loc) (cells1 slots1 pc1 : Nat) (ls1 : Array Slot), AtQ G D L xs s σ' H1 locs1 → cells1 + n0 = σ'.1 → slots1 + σ.2.1 = slots + σ'.2.1 → RetI m r pc1 → W p l e R s mi args below meth c H1 locs1 cells1 slots1 Q (F0 mi pc1 ls1 (r.toList.map (cv G)))) →
    W p l e R s mi args below meth c H locs cells slots Q (F0 mi pc lsA (st.map (cv G)))
theorem lk_mem {i : Nat} {v : Value} : ∀ {l : Ls}, lk i l = some v → (i, v) ∈ l
  | [], h => by cases h
  | q :: l, h => by
    unfold lk at h
    cases e : (q.1 == i) with
    | true =>
      rw [e] at h
      have h1 : q.1 = i := by simpa using e
      have h2 : q.2 = v := Option.some.inj h
      rw [← h1, ← h2]
      exact List.mem_cons_self
    | false =>
      rw [e] at h
      exact List.mem_cons_of_mem _ (lk_mem h)
theorem lv_lk {G : GP} {lsA : Array Slot} {nL i : Nat} {v : Value} {l : Ls} (h : lv_has lsA nL (l.map (cvl G))) (e : lk i l = some v) : lsA[i]? = some (.val (cv G v)) := h.2.2 (i, cv G v) (List.mem_map.mpr ⟨(i, v), lk_mem e, rfl⟩)
theorem lv_nrm {G : GP} {lsA : Array Slot} {nL : Nat} {l : Ls} (m pc : Nat) (h : lv_has lsA nL (l.map (cvl G))) : lv_has lsA nL ((nrmAt m pc l).map (cvl G)) := by
  unfold nrmAt
  split
  · exact h
  · rename_i is _
    refine ⟨h.1, h.2.1, fun q hq => ?_⟩
    obtain ⟨q0, h1, rfl⟩ := List.mem_map.mp hq
    unfold nrm at h1
    obtain ⟨i, -, h2⟩ := List.mem_filterMap.mp h1
    cases e : lk i l with
    | none => rw [e] at h2; cases h2
    | some v => rw [e] at h2; cases h2; exact lv_lk h e
theorem fil1 (G : GP) (i : Nat) (l : Ls) : (l.map (cvl G)).filter (fun q => !(q.1 == i) && !(q.1 + 1 == i && q.2.category == 2)) = (l.filter (fun q => !(q.1 == i) && !(q.1 + 1 == i && q.2.category == 2))).map (cvl G) := by
  rw [List.filter_map]
  congr 1
  apply List.filter_congr
  intro q _
  simp [cvl, cat_cv]
theorem fil2 (G : GP) (i : Nat) (l : Ls) : (l.map (cvl G)).filter (fun q => !(q.1 == i) && (!(q.1 == i + 1) && !(q.1 + 1 == i && q.2.category == 2))) = (l.filter (fun q => !(q.1 == i) && (!(q.1 == i + 1) && !(q.1 + 1 == i && q.2.category == 2)))).map (cvl G) := by
  rw [List.filter_map]
  congr 1
  apply List.filter_congr
  intro q _
  simp [cvl, cat_cv]
theorem stl1_map (G : GP) (i : Nat) (v : Value) (l : Ls) : (i, cv G v) :: (l.map (cvl G)).filter (fun q => !(q.1 == i) && !(q.1 + 1 == i && q.2.category == 2)) = (stl1 i v l).map (cvl G) := by
  rw [fil1]; rfl
theorem stl2_map (G : GP) (i : Nat) (v : Value) (l : Ls) : (i, cv G v) :: (l.map (cvl G)).filter (fun q => !(q.1 == i) && (!(q.1 == i + 1) && !(q.1 + 1 == i && q.2.category == 2))) = (stl2 i v l).map (cvl G) := by
  rw [fil2]; rfl
theorem lk_at {G : GP} {i : Nat} {v : Value} {l : Ls} (e : lk i l = some v) : ∃ k : Nat, (l.map (cvl G))[k]? = some (i, cv G v) := by
  obtain ⟨k, hk⟩ := List.getElem?_of_mem (lk_mem e)
  exact ⟨k, by rw [List.getElem?_map, hk]; rfl⟩
theorem bO_some {α : Type} {o : Option α} {f : α → Option Rs} {q : Rs} (h : bO o f = some q) : ∃ x, o = some x ∧ f x = some q := by
  cases o with
  | none => cases h
  | some x => exact ⟨x, rfl, h⟩
theorem gR_gV {σ : Mem} {ci a k v : Nat} (h : gR σ ci a k = some v) : gV σ ci a k = some (.ref v) := by
  unfold gR at h
  split at h
  · rename_i w e
    cases h
    exact e
  · cases h
theorem gI_gV {σ : Mem} {ci a k : Nat} {v : Int32} (h : gI σ ci a k = some v) : gV σ ci a k = some (.int v) := by
  unfold gI at h
  split at h
  · rename_i w e
    cases h
    exact e
  · cases h
theorem gQ_gV {σ : Mem} {ci a k : Nat} {q : Option Nat} (h : gQ σ ci a k = some q) : gV σ ci a k = some (va_rf q) := by
  unfold gQ at h
  split at h
  · rename_i w e
    cases h
    exact e
  · rename_i e
    cases h
    exact e
  · cases h
theorem fl_any {m i ci k : Nat} (h : FL.any (fun q => q.1 == cNo m && q.2.1 == i && q.2.2.1 == ci && q.2.2.2.1 == k) = true) : ∃ q ∈ FL, q.1 = cNo m ∧ q.2.1 = i ∧ q.2.2.1 = ci ∧ q.2.2.2.1 = k := by
  obtain ⟨q, hq, h1⟩ := List.any_eq_true.mp h
  simp only [Bool.and_eq_true, beq_iff_eq] at h1
  exact ⟨q, hq, h1.1.1.1, h1.1.1.2, h1.1.2, h1.2⟩
theorem fl_anyP {m i ci k : Nat} (h : FL.any (fun q => q.1 == cNo m && q.2.1 == i && q.2.2.1 == ci && q.2.2.2.1 == k && ((cTX ci k).2.2.2 == false || (q.2.2.2.2.1 == 0 && mkd.getD m 9 == 1 && cNo m == ci))) = true) :
    ∃ q ∈ FL, q.1 = cNo m ∧ q.2.1 = i ∧ q.2.2.1 = ci ∧ q.2.2.2.1 = k ∧ ((cTX ci k).2.2.2 = false ∨ (q.2.2.2.2.1 = 0 ∧ mkd.getD m 9 = 1 ∧ cNo m = ci)) := by
  obtain ⟨q, hq, h1⟩ := List.any_eq_true.mp h
  simp only [Bool.and_eq_true, Bool.or_eq_true, beq_iff_eq] at h1
  exact ⟨q, hq, h1.1.1.1.1, h1.1.1.1.2, h1.1.1.2, h1.1.2, h1.2.elim Or.inl (fun z => Or.inr ⟨z.1.1, z.1.2, z.2⟩)⟩
theorem cl_any {m i ci : Nat} (h : CLk.any (fun q => q.1 == cNo m && q.2.1 == i && q.2.2.1 == ci) = true) : ∃ q ∈ CLk, q.1 = cNo m ∧ q.2.1 = i ∧ q.2.2.1 = ci := by
  obtain ⟨q, hq, h1⟩ := List.any_eq_true.mp h
  simp only [Bool.and_eq_true, beq_iff_eq] at h1
  exact ⟨q, hq, h1.1.1, h1.1.2, h1.2⟩
theorem any3 {l : List (Nat × Nat × Nat)} {m i : Nat} (h : l.any (fun q => q.1 == cNo m && q.2.1 == i) = true) : ∃ q ∈ l, q.1 = cNo m ∧ q.2.1 = i := by
  obtain ⟨q, hq, h1⟩ := List.any_eq_true.mp h
  simp only [Bool.and_eq_true, beq_iff_eq] at h1
  exact ⟨q, hq, h1.1, h1.2⟩
theorem ml_any {m i mt kd : Nat} (h : MLk.any (fun q => q.1 == cNo m && q.2.1 == i && q.2.2.1 == mt) = true) (hk : kd ≠ 0) : ∃ q ∈ MLk, q.1 = cNo m ∧ q.2.1 = i ∧ q.2.2.1 = mt ∧ (kd = 0 → q.2.2.2.1 = 0) := by
  obtain ⟨q, hq, h1⟩ := List.any_eq_true.mp h
  simp only [Bool.and_eq_true, beq_iff_eq] at h1
  exact ⟨q, hq, h1.1.1, h1.1.2, h1.2, fun z => absurd z hk⟩
theorem ml_any0 {m i mt : Nat} (h : MLk.any (fun q => q.1 == cNo m && q.2.1 == i && q.2.2.1 == mt && q.2.2.2.1 == 0) = true) : ∃ q ∈ MLk, q.1 = cNo m ∧ q.2.1 = i ∧ q.2.2.1 = mt ∧ ((0 : Nat) = 0 → q.2.2.2.1 = 0) := by
  obtain ⟨q, hq, h1⟩ := List.any_eq_true.mp h
  simp only [Bool.and_eq_true, beq_iff_eq] at h1
  exact ⟨q, hq, h1.1.1.1, h1.1.1.2, h1.1.2, fun _ => h1.2⟩
theorem okR_sum {rs : List Value} (h : okR rs = true) : (rs.map fun v => v.category).sum ≤ 8 := by
  unfold okR at h
  simpa using h
theorem take_rev {st av : List Value} {n : Nat} (h : (st.take n).reverse = av) : st = av.reverse ++ st.drop n := by
  rw [← h, List.reverse_reverse, List.take_append_drop]
theorem le_pFe {σ τ : Mem} {ci a k : Nat} {v : Value} (h : pF σ ci a k v = some τ) : τ.1 = σ.1 ∧ τ.2.1 = σ.2.1 := by
  obtain ⟨fs, -, -, rfl⟩ := pF_some h
  exact ⟨rfl, rfl⟩
theorem le_sIe {σ τ : Mem} {a : Nat} {i x : Int32} (h : sI σ a i x = some τ) : τ.1 = σ.1 ∧ τ.2.1 = σ.2.1 := by
  unfold sI at h
  split at h
  · rename_i t n f hc
    cases e9 : (t == 0 && inb i n) with
    | false => rw [e9] at h; cases h
    | true => rw [e9] at h; cases h; exact ⟨rfl, rfl⟩
  · cases h
theorem le_sBe {σ τ : Mem} {a : Nat} {i x : Int32} (h : sB σ a i x = some τ) : τ.1 = σ.1 ∧ τ.2.1 = σ.2.1 := by
  unfold sB at h
  split at h
  · rename_i t n f hc
    cases e9 : ((t == 1 || t == 2) && inb i n) with
    | false => rw [e9] at h; cases h
    | true => rw [e9] at h; cases h; exact ⟨rfl, rfl⟩
  · cases h
theorem le_sLe {σ τ : Mem} {a : Nat} {i : Int32} {x : Int64} (h : sL σ a i x = some τ) : τ.1 = σ.1 ∧ τ.2.1 = σ.2.1 := by
  unfold sL at h
  split at h
  · rename_i t n f hc
    cases e9 : (t == 3 && inb i n) with
    | false => rw [e9] at h; cases h
    | true => rw [e9] at h; cases h; exact ⟨rfl, rfl⟩
  · cases h
theorem le_sQe {σ τ : Mem} {a : Nat} {i : Int32} {x : Option Nat} (h : sQ σ a i x = some τ) : τ.1 = σ.1 ∧ τ.2.1 = σ.2.1 := by
  obtain ⟨t, n, f, -, -, -, -, rfl⟩ := sQ_some h
  exact ⟨rfl, rfl⟩
theorem le_cpe {σ τ : Mem} {b a : Nat} {sp dp n : Int32} (h : cpI σ b sp a dp n = some τ) : τ.1 = σ.1 ∧ τ.2.1 = σ.2.1 := by
  obtain ⟨_, _, _, _, -, -, -, -, -, -, -, rfl⟩ := cpI_some h
  exact ⟨rfl, rfl⟩
theorem nar_Z {G : GP} {v : Int32} (h : okZ v = true) : narrow .boolean (cv G (.int v)) = cv G (.int v) ∧ fits .boolean (cv G (.int v)) = true := by
  unfold okZ at h
  simp only [Bool.or_eq_true, decide_eq_true_eq] at h
  rcases h with rfl | rfl <;> exact ⟨rfl, rfl⟩
theorem rt_ref {ci k a : Nat} (h : isRT (tyOf ci k) = true) : ∃ ty, tyOf ci k = some ty ∧ narrow ty (.ref a) = .ref a ∧ fits ty (.ref a) = true := by
  cases e : tyOf ci k with
  | none => rw [e] at h; cases h
  | some ty =>
    rw [e] at h
    cases ty <;> first | (cases h; done) | exact ⟨_, rfl, rfl, rfl⟩
theorem ivk_some {kc : Nat → List Value → Mem → Option Rs} {kn : List Value → Mem → Option Rs} {mt r : Nat} {av rs : List Value} {σ : Mem} {q : Rs} (h : ivk kc kn mt r av rs σ = some q) : ∃ r1 τ, kc mt av σ = some (r1, τ) ∧ kn (r1.toList ++ rs) τ = some q := by
  unfold ivk at h
  cases e : kc mt av σ with
  | none =>
    rw [e] at h
    match r, h with
    | 0, h | 1, h | 2, h | 3, h | 4, h => cases h
    | r + 5, h => cases h
  | some w =>
    rw [e] at h
    obtain ⟨v, τ⟩ := w
    refine ⟨v, τ, rfl, ?_⟩
    match r, h with
    | 0, h =>
      cases v with
      | none => exact h
      | some v => cases h
    | 1, h | 2, h | 3, h | 4, h =>
      cases v with
      | none => cases h
      | some v => cases v <;> first | (cases h; done) | exact h
    | r + 5, h => cases h
/-- a call with n steps -/
def kcE (n : Nat) : Nat → Nat → List Value → Mem → Option Rs
  | 0 => fun _ _ _ => none
  | d + 1 => fun m' args σ' => ev n d m' 0 (lv_args 0 args) [] σ'
theorem kcE_eq (n d : Nat) : (fun m' args σ' => match d with | 0 => none | d' + 1 => ev n d' m' 0 (lv_args 0 args) [] σ') = kcE n d := by
  cases d <;> rfl
section ROWS5
variable {G : GP} {D : va_G} {L : Nat} {xs : Nat → Int32} {adV : Nat → Nat} {p : Program} {l : Launch} {e : Env} {R : Room} {s : State} {mi : MethodId} {args : Array Value} {below : List Frame} {meth : Method} {c : Code} {H : Heap} {locs : List Loc} {cells slots : Nat} {Q : State → Prop}
  {m pc : Nat} {lsA : Array Slot} {rest : List Value} {σ : Mem}
theorem ki_word (C : Ctx G D L xs adV p s mi args meth c m) (hm : m < 277) {i : Nat} {w : Int32} (h : KIk.any (fun q => q.1 == cNo m && q.2.1 == i && q.2.2.1 == w) = true) : ∃ v, (Cond.constant (own m) i v).before args s = true ∧ w = v := by
  obtain ⟨q, hq, h1⟩ := List.any_eq_true.mp h
  simp only [Bool.and_eq_true, beq_iff_eq] at h1
  have hw := ckKI q hq
  obtain ⟨a, b, v, j⟩ := q
  dsimp only at h1 hw
  obtain ⟨⟨rfl, rfl⟩, rfl⟩ := h1
  rw [← ckO m hm] at hw
  exact ⟨v, C.2.2.2.2.2.2.2.1 _ (gw_of hw rfl), rfl⟩
theorem kj_word (C : Ctx G D L xs adV p s mi args meth c m) (hm : m < 277) {i : Nat} {w : Int64} (h : KJk.any (fun q => q.1 == cNo m && q.2.1 == i && q.2.2.1 == w) = true) : ∃ v, (Cond.constantLong (own m) i v).before args s = true ∧ w = v := by
  obtain ⟨q, hq, h1⟩ := List.any_eq_true.mp h
  simp only [Bool.and_eq_true, beq_iff_eq] at h1
  have hw := ckKJ q hq
  obtain ⟨a, b, v, j⟩ := q
  dsimp only at h1 hw
  obtain ⟨⟨rfl, rfl⟩, rfl⟩ := h1
  rw [← ckO m hm] at hw
  exact ⟨v, C.2.2.2.2.2.2.2.1 _ (gw_of hw rfl), rfl⟩
/-- a switch goes to one of its targets -/
theorem sw_cases {kn : Nat → Option Rs} {x : Int32} {dflt : Nat} {q : Rs} : ∀ (ks : List Int32) (ts : List Nat), ks.length = ts.length → sw kn x dflt ks ts = some q → (∃ (i : Nat) (t : Nat), ks[i]? = some x ∧ ts[i]? = some t ∧ kn t = some q) ∨ ((∀ i : Nat, ks[i]? ≠ some x) ∧ kn dflt = some q)
  | [], [], _, h => Or.inr ⟨fun i => by simp, h⟩
  | [], _ :: _, hl, _ => by simp at hl
  | _ :: _, [], hl, _ => by simp at hl
  | k :: ks, t :: ts, hl, h => by
    unfold sw at h
    by_cases e : x = k
    · rw [if_pos e] at h
      exact Or.inl ⟨0, t, by rw [e]; rfl, rfl, h⟩
    · rw [if_neg e] at h
      rcases sw_cases ks ts (by simpa using hl) h with ⟨i, t', h1, h2, h3⟩ | ⟨h1, h2⟩
      · exact Or.inl ⟨i + 1, t', h1, h2, h3⟩
      · refine Or.inr ⟨fun i => ?_, h2⟩
        cases i with
        | zero => intro z; exact e (Option.some.inj z).symm
        | succ i => exact h1 i
theorem toInt_small {z : Int} (h1 : 0 ≤ z) (h2 : z < 1000) : (Int32.ofInt z).toInt = z := by
  rw [Int32.toInt_ofInt]
  unfold Int.bmod
  have h3 : z % (2 ^ 32 : Nat) = z := Int.emod_eq_of_lt h1 (by omega)
  simp only [Int32.size] at *
  split <;> omega
theorem r_tsw (C : Ctx G D L xs adV p s mi args meth c m) {dd lo hi : Int} {offs : Array Int} {ln t : Nat} {ts : List Nat} {x : Int32} {kn : Nat → Option Rs} {q : Rs} (hdg : decode (bc m) pc = .ok (.tableswitch dd lo hi offs, ln)) (h1 : 0 ≤ lo) (h2 : hi < 1000) (h3 : hi + 1 = lo + offs.size)
    (h4 : (pc : Int) + dd = (t : Int)) (h5 : ts.map (fun (t : Nat) => (t : Int)) = offs.toList.map (fun q => (pc : Int) + q)) (h : sw kn x t ((List.range offs.size).map (fun (i : Nat) => Int32.ofInt (lo + (i : Int)))) ts = some q)
    (kk : ∀ t', kn t' = some q → W p l e R s mi args below meth c H locs cells slots Q (F0 mi t' lsA rest)) : W p l e R s mi args below meth c H locs cells slots Q (F0 mi pc lsA (.int x :: rest)) := by
  have hx := C.1
  have hb := C.2.1
  have hl : ts.length = offs.size := by
    have := congrArg List.length h5
    simpa using this
  have hk : ∀ i : Nat, i < offs.size → ((List.range offs.size).map (fun (i : Nat) => Int32.ofInt (lo + (i : Int))))[i]? = some (Int32.ofInt (lo + (i : Int))) := fun i hi' => by simp [hi']
  rcases sw_cases _ ts (by simp [hl]) h with ⟨i, t', g1, g2, g3⟩ | ⟨g1, g2⟩
  · have hi' : i < offs.size := by
      have := (List.getElem?_eq_some_iff.mp g2).1
      omega
    rw [hk i hi'] at g1
    have hxe := Option.some.inj g1
    have hxi : x.toInt = lo + (i : Int) := by
      rw [← hxe]
      exact toInt_small (by omega) (by omega)
    have ho : offs[(x.toInt - lo).toNat]? = some offs[i] := by
      rw [hxi, show (lo + (i : Int) - lo).toNat = i by omega]
      exact Array.getElem?_eq_getElem hi'
    have h6 := congrArg (fun l => l[i]?) h5
    simp only [List.getElem?_map, g2, Option.map_some, Array.getElem?_toList, Array.getElem?_eq_getElem hi'] at h6
    refine lv_tableIn hx hb hdg (by omega) (by omega) ho ?_ (kk t' g3)
    exact (Option.some.inj h6).symm
  · refine lv_tableOut hx hb hdg ?_ h4 (kk t g2)
    by_cases z : x.toInt < lo
    · exact Or.inl z
    · refine Or.inr ?_
      by_cases z2 : hi < x.toInt
      · exact z2
      · exfalso
        have hi' : (x.toInt - lo).toNat < offs.size := by omega
        refine g1 (x.toInt - lo).toNat ?_
        rw [hk _ hi']
        congr 1
        apply Int32.toInt_inj.mp
        rw [toInt_small (by omega) (by omega)]
        omega
theorem r_oi (C : Ctx G D L xs adV p s mi args meth c m) (hm : m < 277) {i a : Nat} {rs : List Value} (hf : ∃ q ∈ OIk, q.1 = cNo m ∧ q.2.1 = i) (hls : lsA.size = mxL m) (hfr : 1 ≤ R.frames) (hlo : 60 ≤ R.locals) (hr : (rs.map fun v => v.category).sum ≤ 8) (hdg : decode (bc m) pc = .ok (.invokespecial i, 3))
    (kk : W p l e R s mi args below meth c H locs cells slots Q (F0 mi (pc + 3) lsA (rs.map (cv G)))) : W p l e R s mi args below meth c H locs cells slots Q (F0 mi pc lsA (.ref (adr G a) :: rs.map (cv G))) := by
  obtain ⟨q, hq, e1, e2⟩ := hf
  have hw := ckOI q hq
  obtain ⟨a1, a2, a3⟩ := q
  dsimp only at e1 e2 hw
  subst e1; subst e2
  rw [← ckO m hm] at hw
  obtain ⟨hx, hb, hml, hown, -, -, -, hts, hX⟩ := C
  exact W.objInit hx hb hown (hts _ (gw_of hw rfl)) (hts _ (List.mem_filter.mpr ⟨oiw, rfl⟩)) (hts _ (List.mem_filter.mpr ⟨oic, rfl⟩)) rfl (by rw [hml]; exact hls) rfl hdg hfr (by show 2 * 0 + _ + 12 ≤ _; rw [cat_sum]; omega) kk
theorem mnw : Cond.code Lib.Math.min.name Lib.Math.min.code 2 (some .int) ∈ lw_tbl := by
  have h := ckB 275 (by omega)
  have e : Cond.code (yT 275) (bc 275) (mxL 275) (rtT 275) = Cond.code Lib.Math.min.name Lib.Math.min.code 2 (some .int) := by decide +kernel
  rw [e] at h
  exact h
theorem mxw : Cond.code Lib.Math.max.name Lib.Math.max.code 2 (some .int) ∈ lw_tbl := by
  have h := ckB 274 (by omega)
  have e : Cond.code (yT 274) (bc 274) (mxL 274) (rtT 274) = Cond.code Lib.Math.max.name Lib.Math.max.code 2 (some .int) := by decide +kernel
  rw [e] at h
  exact h
theorem mmw : Cond.static Lib.Math.min.name ∈ lw_tbl ∧ Cond.static Lib.Math.max.name ∈ lw_tbl ∧ Cond.initialized "java/lang/Math" ∈ lw_tbl := by decide +kernel
theorem r_mn (C : Ctx G D L xs adV p s mi args meth c m) (hm : m < 277) {i : Nat} {x y : Int32} {rs : List Value} (hf : ∃ q ∈ MNk, q.1 = cNo m ∧ q.2.1 = i) (hls : lsA.size = mxL m) (hfr : 1 ≤ R.frames) (hlo : 60 ≤ R.locals) (hr : (rs.map fun v => v.category).sum ≤ 8) (hcl : cells ≤ R.cells) (hsl : slots ≤ R.slots) (hdg : decode (bc m) pc = .ok (.invokestatic i, 3))
    (kk : W p l e R s mi args below meth c H locs cells slots Q (F0 mi (pc + 3) lsA (.int (mnI x y) :: rs.map (cv G)))) : W p l e R s mi args below meth c H locs cells slots Q (F0 mi pc lsA (.int y :: .int x :: rs.map (cv G))) := by
  obtain ⟨q, hq, e1, e2⟩ := hf
  have hw := ckMN q hq
  obtain ⟨a1, a2, a3⟩ := q
  dsimp only at e1 e2 hw
  subst e1; subst e2
  rw [← ckO m hm] at hw
  obtain ⟨hx, hb, hml, hown, -, -, -, hts, hX⟩ := C
  exact va_mmin hx hb (by rw [hml, hls]) hown (hts _ (gw_of hw rfl)) (hts _ (List.mem_filter.mpr ⟨mmw.1, rfl⟩)) (hts _ (List.mem_filter.mpr ⟨mmw.2.2, rfl⟩)) (hts _ (List.mem_filter.mpr ⟨mnw, rfl⟩)) hfr (by rw [cat_sum]; omega) hcl hsl hdg kk
theorem r_mx (C : Ctx G D L xs adV p s mi args meth c m) (hm : m < 277) {i : Nat} {x y : Int32} {rs : List Value} (hf : ∃ q ∈ MXk, q.1 = cNo m ∧ q.2.1 = i) (hls : lsA.size = mxL m) (hfr : 1 ≤ R.frames) (hlo : 60 ≤ R.locals) (hr : (rs.map fun v => v.category).sum ≤ 8) (hcl : cells ≤ R.cells) (hsl : slots ≤ R.slots) (hdg : decode (bc m) pc = .ok (.invokestatic i, 3))
    (kk : W p l e R s mi args below meth c H locs cells slots Q (F0 mi (pc + 3) lsA (.int (mxI x y) :: rs.map (cv G)))) : W p l e R s mi args below meth c H locs cells slots Q (F0 mi pc lsA (.int y :: .int x :: rs.map (cv G))) := by
  obtain ⟨q, hq, e1, e2⟩ := hf
  have hw := ckMX q hq
  obtain ⟨a1, a2, a3⟩ := q
  dsimp only at e1 e2 hw
  subst e1; subst e2
  rw [← ckO m hm] at hw
  obtain ⟨hx, hb, hml, hown, -, -, -, hts, hX⟩ := C
  exact va_mmax hx hb (by rw [hml, hls]) hown (hts _ (gw_of hw rfl)) (hts _ (List.mem_filter.mpr ⟨mmw.2.1, rfl⟩)) (hts _ (List.mem_filter.mpr ⟨mmw.2.2, rfl⟩)) (hts _ (List.mem_filter.mpr ⟨mxw, rfl⟩)) hfr (by rw [cat_sum]; omega) hcl hsl hdg kk
theorem tx_len : ∀ j, j < 25 → txLen.getD j 0 = (txts.getD j []).length ∧ Int32.ofNat (txLen.getD j 0) >>> ((0 : Int32) &&& 31) = Int32.ofNat (txLen.getD j 0) ∧ txLen.getD j 0 < 100 := by decide +kernel
theorem tx_ch : ∀ j, j < 25 → ∀ k, k < (txts.getD j []).length → ((((txts.getD j []).getD k 0) &&& 255).toUInt32 % 65536).toInt32 = (txts.getD j []).getD k 0 ∧ narrow .char (.int ((txts.getD j []).getD k 0)) = .int ((txts.getD j []).getD k 0) := by decide +kernel
theorem r_tlen (C : Ctx G D L xs adV p s mi args meth c m) (hm : m < 277) (hA : AtQ G D L xs s σ H locs) {i a : Nat} {v : Int32} {rs : List Value} (hf : ∃ q ∈ SLk, q.1 = cNo m ∧ q.2.1 = i) (hv : tLen σ a = some v) (hls : lsA.size = mxL m) (hfr : 4 ≤ R.frames) (hlo : 240 ≤ R.locals) (hr : (rs.map fun v => v.category).sum ≤ 8) (hcl : cells ≤ R.cells) (hsl : slots ≤ R.slots) (hdg : decode (bc m) pc = .ok (.invokevirtual i, 3))
    (kk : W p l e R s mi args below meth c H locs cells slots Q (F0 mi (pc + 3) lsA (.int v :: rs.map (cv G)))) : W p l e R s mi args below meth c H locs cells slots Q (F0 mi pc lsA (.ref (adr G a) :: rs.map (cv G))) := by
  obtain ⟨q, hq, e1, e2⟩ := hf
  have hw := ckSL q hq
  obtain ⟨a1, a2, a3⟩ := q
  dsimp only at e1 e2 hw
  subst e1; subst e2
  rw [← ckO m hm] at hw
  obtain ⟨hx, hb, hml, hown, -, -, -, hts, hX⟩ := C
  unfold tLen at hv
  split at hv
  · rename_i t n f hc
    cases e9 : (t == 7) with
    | false => rw [e9] at hv; cases hv
    | true =>
      rw [e9] at hv
      simp only [cond_true, Option.some.injEq] at hv
      have ht : t = 7 := by simpa using e9
      subst ht
      have hq9 := wf_out hA.2.2 hc (by omega)
      rcases ext_t hq9 with ⟨-, h2⟩ | ⟨h1, h2⟩
      · cases h2
      · have hj : a - 1000000 < 25 := by omega
        have had : adr G a = G.2.2.1 (a - 1000000) := by
          unfold adr
          rw [if_neg (by omega), if_neg (by omega)]
        obtain ⟨g1, g2, g3⟩ := tx_len (a - 1000000) hj
        have hn := (Prod.mk.inj (Prod.mk.inj h2).2).1
        have hv2 : Int32.ofNat (txLen.getD (a - 1000000) 0) >>> ((0 : Int32) &&& 31) = v := by rw [g2, g1, ← hn]; exact hv
        rw [had]
        have hcb : CallB R s args (own m) a2 jy_len jb_len 1 (some .int) (wsJ jy_len jb_len 1 (some .int)) (rmJ 1) 0 0 0 := callB_of 0 hts (wsJ_good jc_len) rfl rfl rfl (hts _ (jws_in (.initialized "java/lang/String") (by decide +kernel))) (hts _ (gw_of hw rfl)) ⟨by decide, by decide, by decide +kernel⟩ ⟨by show 1 + 1 ≤ _; omega, by show 8 + (1 + 11) + 40 * 1 ≤ _; omega⟩
        exact W_callP (va_runV (As := []) (rest := rs.map (cv G)) ⟨hx, hb, hml, hown, hts⟩ (j_len (G := G) (D := D) (L := L) (xs := xs) (adV := adV) (a - 1000000) hj v hv2) ⟨hcb, hts _ (jws_in (.instanceMethod jy_len) (by decide +kernel)), hts _ (jws_in (.selects "java/lang/String" jy_len jy_len) (by decide +kernel))⟩ ⟨PJ_blind _ _ _ _ _ _, vk_recv hX.2.2.2.2.1 hj hA.2.1, fun U hU hW => ⟨rfl, hX.go hW (by rw [hU]; exact hA.2.1)⟩⟩ rfl rfl hls rfl (lv_room (by rw [cat_sum]; exact hr)) hdg ⟨hcl, hsl⟩) kk
  · cases hv
theorem r_tch (C : Ctx G D L xs adV p s mi args meth c m) (hm : m < 277) (hA : AtQ G D L xs s σ H locs) {i a : Nat} {j v : Int32} {rs : List Value} (hf : ∃ q ∈ SCk, q.1 = cNo m ∧ q.2.1 = i) (hv : tCh σ a j = some v) (hls : lsA.size = mxL m) (hfr : 4 ≤ R.frames) (hlo : 240 ≤ R.locals) (hr : (rs.map fun v => v.category).sum ≤ 8) (hcl : cells ≤ R.cells) (hsl : slots ≤ R.slots) (hdg : decode (bc m) pc = .ok (.invokevirtual i, 3))
    (kk : W p l e R s mi args below meth c H locs cells slots Q (F0 mi (pc + 3) lsA (.int v :: rs.map (cv G)))) : W p l e R s mi args below meth c H locs cells slots Q (F0 mi pc lsA (.int j :: .ref (adr G a) :: rs.map (cv G))) := by
  obtain ⟨q, hq, e1, e2⟩ := hf
  have hw := ckSC q hq
  obtain ⟨a1, a2, a3⟩ := q
  dsimp only at e1 e2 hw
  subst e1; subst e2
  rw [← ckO m hm] at hw
  obtain ⟨hx, hb, hml, hown, -, -, -, hts, hX⟩ := C
  unfold tCh at hv
  split at hv
  · rename_i t n f hc
    cases e9 : (t == 7 && inb j n) with
    | false => rw [e9] at hv; cases hv
    | true =>
      rw [e9] at hv
      simp only [cond_true, Option.some.injEq] at hv
      simp only [Bool.and_eq_true, beq_iff_eq] at e9
      obtain ⟨ht, hi⟩ := e9
      subst ht
      have hq9 := wf_out hA.2.2 hc (by omega)
      rcases ext_t hq9 with ⟨-, h2⟩ | ⟨h1, h2⟩
      · cases h2
      · have hj : a - 1000000 < 25 := by omega
        have had : adr G a = G.2.2.1 (a - 1000000) := by
          unfold adr
          rw [if_neg (by omega), if_neg (by omega)]
        obtain ⟨g1, g2, g3⟩ := tx_len (a - 1000000) hj
        obtain ⟨hn, hfe⟩ := Prod.mk.inj (Prod.mk.inj h2).2
        have hfe := Sum.inl.inj hfe
        have hin : vp_in j (txLen.getD (a - 1000000) 0) := by rw [g1, ← hn]; exact inb_in hi
        obtain ⟨k, hk, hjk⟩ := vp_in_of hin (by omega)
        have hck : j.toNatClampNeg = k := by rw [hjk]; exact nI_clamp (by omega)
        have hlt : j < Int32.ofNat (txLen.getD (a - 1000000) 0) := by rw [hjk]; exact nI_lt hk (by omega)
        obtain ⟨c1, c2⟩ := tx_ch (a - 1000000) hj k (by omega)
        have hve : (txts.getD (a - 1000000) []).getD k 0 = v := by rw [← hv, hfe, hck]
        rw [hve] at c1 c2
        rw [had]
        have hcb : CallB R s args (own m) a2 jy_cha jb_cha 2 (some .char) (wsJ jy_cha jb_cha 2 (some .char)) (rmJ 3) 0 0 1 := callB_of 1 hts (wsJ_good jc_cha) rfl rfl rfl (hts _ (jws_in (.initialized "java/lang/String") (by decide +kernel))) (hts _ (gw_of hw rfl)) ⟨by decide, by decide, by decide +kernel⟩ ⟨by show 3 + 1 ≤ _; omega, by show 8 + (2 + 11) + 40 * 3 ≤ _; omega⟩
        exact W_callP (va_runV (As := [.int j]) (rest := rs.map (cv G)) ⟨hx, hb, hml, hown, hts⟩ (j_cha (G := G) (D := D) (L := L) (xs := xs) (adV := adV) (a - 1000000) hj j v hin hlt (by rw [hck, hve]; exact c1) c2) ⟨hcb, hts _ (jws_in (.instanceMethod jy_cha) (by decide +kernel)), hts _ (jws_in (.selects "java/lang/String" jy_cha jy_cha) (by decide +kernel))⟩ ⟨PJ_blind _ _ _ _ _ _, vk_recv hX.2.2.2.2.1 hj hA.2.1, fun U hU hW => ⟨rfl, hX.go hW (by rw [hU]; exact hA.2.1)⟩⟩ rfl rfl hls rfl (lv_room (by rw [cat_sum]; exact hr)) hdg ⟨hcl, hsl⟩) kk
  · cases hv
theorem lg_len (vs : List Value) : (lg_sl vs).length = (vs.map fun v => v.category).sum := by
  induction vs with
  | nil => rfl
  | cons v t ih =>
    have h1 : lg_sl (v :: t) = (if v.category = 2 then [.val v, .second] else [.val v]) ++ lg_sl t := by
      unfold lg_sl
      rw [List.flatMap_cons]
    rw [h1, List.length_append, ih, List.map_cons, List.sum_cons]
    rcases lv_cat v with h | h <;> simp [h]
theorem mx_eq : ∀ m, m < 277 → mxs.getD m 0 = mxL m := by decide +kernel
theorem r_ivk (C : Ctx G D L xs adV p s mi args meth c m) (hm : m < 277) (hA : AtQ G D L xs s σ H locs) {n n0 d mt kd i rk : Nat} {av rs st : List Value} {r : Option Value} {σ' : Mem} {ls : Ls} (h0 : s.heap.size = G.1 + n0) (hc : cells + n0 = σ.1) (hRc : σ'.1 ≤ R.cells + n0) (hRs : slots + σ'.2.1 ≤ R.slots + σ.2.1) (hRf : d + 4 ≤ R.frames) (hRl : 60 * (d + 4) ≤ R.locals) (hlsz : lsA.size = mxL m) (hmt : mt < 274)
    (hq : ∃ q ∈ MLk, q.1 = cNo m ∧ q.2.1 = i ∧ q.2.2.1 = mt ∧ (kd = 0 → q.2.2.2.1 = 0)) (hkd : mkd.getD mt 9 = kd)
    (hmet : ∀ (d m : Nat) (av : List Value) (σ : Mem) (r : Option Value) (σ' : Mem), ev n d m 0 (lv_args 0 av) [] σ = some (r, σ') → m < 274 → σ'.1 ≤ 1000000 → wfM L xs σ → (lg_sl (av.map (cv G))).length ≤ mxL m → MetS G D L xs adV l d m av σ r σ' ∧ wfM L xs σ')
    (hbig : σ'.1 ≤ 1000000) (hoa : okA mt av = true) (hrs : (rs.map fun v => v.category).sum ≤ 8) (hst : st = av.reverse ++ rs)
    (hk : (kd = 0 ∧ av.length = mna.getD mt 0 ∧ decode (bc m) pc = .ok (.invokestatic i, 3)) ∨ (∃ a as ci, av = .ref a :: as ∧ as.length = mna.getD mt 0 ∧ isC σ ci a = true ∧ ci < 10 ∧ cnm.getD ci "" = own mt ∧ ((kd = 1 ∧ rtT mt = none ∧ decode (bc m) pc = .ok (.invokespecial i, 3)) ∨ (kd = 2 ∧ decode (bc m) pc = .ok (.invokevirtual i, 3)))))
    (h : ivk (kcE n d) (fun st σ => ev n d m (pc + 3) ls st σ) mt rk av rs σ = some (r, σ'))
    (kk : ∀ (τ : Mem) (st' : List Value) (H1 : Heap) (locs1 : List Loc) (cells1 slots1 : Nat), ev n d m (pc + 3) ls st' τ = some (r, σ') → AtQ G D L xs s τ H1 locs1 → cells1 + n0 = τ.1 → slots1 + σ.2.1 = slots + τ.2.1 → W p l e R s mi args below meth c H1 locs1 cells1 slots1 Q (F0 mi (pc + 3) lsA (st'.map (cv G)))) :
    W p l e R s mi args below meth c H locs cells slots Q (F0 mi pc lsA (st.map (cv G))) := by
  obtain ⟨r1, τ, e1, e2⟩ := ivk_some h
  cases d with
  | zero => cases e1
  | succ d' =>
    have e1 : ev n d' mt 0 (lv_args 0 av) [] σ = some (r1, τ) := e1
    have hl1 := ev_le _ _ _ _ _ _ _ _ e1
    have hl2 := ev_le _ _ _ _ _ _ _ _ e2
    have k1 : σ.1 ≤ τ.1 := hl1.1
    have k2 : σ.2.1 ≤ τ.2.1 := hl1.2
    have k3 : τ.1 ≤ σ'.1 := hl2.1
    have k4 : τ.2.1 ≤ σ'.2.1 := hl2.2
    have hlg : (lg_sl (av.map (cv G))).length ≤ mxL mt := by
      rw [lg_len, cat_sum, ← mx_eq mt (by omega)]
      unfold okA at hoa
      simpa using hoa
    obtain ⟨hM, hwf⟩ := hmet d' mt av σ r1 τ e1 hmt (by omega) hA.2.2 hlg
    refine r_call (d := 0) (rs := rs) C hm hA h0 hc hmt hq hkd hM hl1 hwf hlsz (by omega) (by omega) (by omega) (by omega) hrs hk (by rw [hst]; simp) (fun H1 locs1 hA' => ?_)
    have h9 := kk τ (r1.toList ++ rs) H1 locs1 (cells + (τ.1 - σ.1)) (slots + (τ.2.1 - σ.2.1)) e2 hA' (by omega) (by omega)
    have e9 : (r1.toList ++ rs).map (cv G) = (r1.map (cv G)).toList ++ rs.map (cv G) := by
      cases r1 <;> simp
    rw [e9] at h9
    exact h9
end ROWS5
