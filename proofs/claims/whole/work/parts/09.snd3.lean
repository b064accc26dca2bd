/-! ===== rows: new cells, copies, calls; what runs leave ===== -/
def Le (σ τ : Mem) : Prop := σ.1 ≤ τ.1 ∧ σ.2.1 ≤ τ.2.1
theorem Le.rf (σ : Mem) : Le σ σ := ⟨Nat.le_refl _, Nat.le_refl _⟩
theorem Le.tr {a b c : Mem} (h : Le a b) (k : Le b c) : Le a c := ⟨Nat.le_trans h.1 k.1, Nat.le_trans h.2 k.2⟩
theorem Le.set {σ τ : Mem} {a : Nat} {c : MCQ} (h : setC σ a c = τ) : Le σ τ := by subst h; exact Le.rf σ
/-- a memory that a part of a step hands on is no smaller -/
def Gro (σ : Mem) (F : (Nat → List Value → Mem → Option Rs) → (Nat → Ls → List Value → Mem → Option Rs) → Option Rs) : Prop :=
  ∀ kc kn, (∀ m a τ r, kc m a τ = some r → Le τ r.2) → (∀ p l s τ r, kn p l s τ = some r → Le τ r.2) → ∀ r, F kc kn = some r → Le σ r.2
theorem Gro.ret {σ : Mem} {v : Option Value} : Gro σ (fun _ _ => some (v, σ)) := fun _ _ _ _ r h => by cases h; exact Le.rf σ
theorem Gro.no {σ : Mem} : Gro σ (fun _ _ => none) := fun _ _ _ _ r h => by cases h
theorem Gro.nxt {σ τ : Mem} {pc : Nat} {ls : Ls} {st : List Value} (h : Le σ τ) : Gro σ (fun _ kn => kn pc ls st τ) := fun _ _ _ hn r e => h.tr (hn _ _ _ _ r e)
theorem Gro.rO {σ : Mem} {α : Type} {o : Option α} {f : α → (Nat → List Value → Mem → Option Rs) → (Nat → Ls → List Value → Mem → Option Rs) → Option Rs} (h : ∀ x, o = some x → Gro σ (f x)) : Gro σ (fun kc kn => bO o (fun x => f x kc kn)) := by
  cases o with
  | none => exact Gro.no
  | some x => exact h x rfl
theorem Gro.rN {σ : Mem} {q : Option Nat} {f : (Nat → List Value → Mem → Option Rs) → (Nat → Ls → List Value → Mem → Option Rs) → Option Rs} {g : Nat → (Nat → List Value → Mem → Option Rs) → (Nat → Ls → List Value → Mem → Option Rs) → Option Rs} (hf : Gro σ f) (h : ∀ x, Gro σ (g x)) : Gro σ (fun kc kn => bN q (f kc kn) (fun x => g x kc kn)) := by
  cases q with
  | none => exact hf
  | some x => exact h x
theorem Gro.ite {σ : Mem} {c : Prop} [Decidable c] {f g : (Nat → List Value → Mem → Option Rs) → (Nat → Ls → List Value → Mem → Option Rs) → Option Rs} (hf : Gro σ f) (hg : Gro σ g) : Gro σ (fun kc kn => if c then f kc kn else g kc kn) := by
  by_cases h : c
  · simp only [h, if_true]; exact hf
  · simp only [h, if_false]; exact hg
theorem Gro.cnd {σ : Mem} {c : Bool} {f g : (Nat → List Value → Mem → Option Rs) → (Nat → Ls → List Value → Mem → Option Rs) → Option Rs} (hf : Gro σ f) (hg : Gro σ g) : Gro σ (fun kc kn => bif c then f kc kn else g kc kn) := by
  cases c
  · exact hg
  · exact hf
theorem Gro.rsw {x : Int32} {dflt : Nat} {ls : Ls} {st : List Value} {σ : Mem} : ∀ (ks : List Int32) (ts : List Nat), Gro σ (fun _ kn => sw (fun t => kn t ls st σ) x dflt ks ts)
  | [], _ => Gro.nxt (Le.rf σ)
  | _ :: _, [] => Gro.nxt (Le.rf σ)
  | k :: ks, t :: ts => Gro.ite (f := fun _ kn => kn t ls st σ) (g := fun _ kn => sw (fun t => kn t ls st σ) x dflt ks ts) (Gro.nxt (Le.rf σ)) (Gro.rsw ks ts)
theorem Gro.rI {mt r : Nat} {args rest : List Value} {σ : Mem} {pc : Nat} {ls : Ls} : Gro σ (fun kc kn => ivk kc (fun st σ => kn pc ls st σ) mt r args rest σ) := by
  intro kc kn hc hn r0 h
  dsimp only at h
  unfold ivk at h
  cases e : kc mt args σ with
  | none =>
    rw [e] at h
    match r with
    | 0 | 1 | 2 | 3 | 4 => cases h
    | r + 5 => cases h
  | some q =>
    have h1 := hc _ _ _ _ e
    rw [e] at h
    obtain ⟨v, τ⟩ := q
    match r with
    | 0 =>
      cases v with
      | none => exact h1.tr (hn _ _ _ _ _ h)
      | some v => cases h
    | 1 =>
      cases v with
      | none => cases h
      | some v => cases v <;> first | (cases h; done) | exact h1.tr (hn _ _ _ _ _ h)
    | 2 =>
      cases v with
      | none => cases h
      | some v => cases v <;> first | (cases h; done) | exact h1.tr (hn _ _ _ _ _ h)
    | 3 =>
      cases v with
      | none => cases h
      | some v => cases v <;> first | (cases h; done) | exact h1.tr (hn _ _ _ _ _ h)
    | 4 =>
      cases v with
      | none => cases h
      | some v => cases v <;> first | (cases h; done) | exact h1.tr (hn _ _ _ _ _ h)
    | r + 5 => cases h
theorem le_pF {σ τ : Mem} {ci a k : Nat} {v : Value} (h : pF σ ci a k v = some τ) : Le σ τ := by
  obtain ⟨fs, -, -, rfl⟩ := pF_some h
  exact Le.rf σ
theorem le_sI {σ τ : Mem} {a : Nat} {i x : Int32} (h : sI σ a i x = some τ) : Le σ τ := by
  unfold sI at h
  split at h
  · rename_i t n f hc
    cases e9 : (t == 0 && inb i n) with
    | false => rw [e9] at h; cases h
    | true => rw [e9] at h; cases h; exact Le.rf σ
  · cases h
theorem le_sB {σ τ : Mem} {a : Nat} {i x : Int32} (h : sB σ a i x = some τ) : Le σ τ := by
  unfold sB at h
  split at h
  · rename_i t n f hc
    cases e9 : ((t == 1 || t == 2) && inb i n) with
    | false => rw [e9] at h; cases h
    | true => rw [e9] at h; cases h; exact Le.rf σ
  · cases h
theorem le_sL {σ τ : Mem} {a : Nat} {i : Int32} {x : Int64} (h : sL σ a i x = some τ) : Le σ τ := by
  unfold sL at h
  split at h
  · rename_i t n f hc
    cases e9 : (t == 3 && inb i n) with
    | false => rw [e9] at h; cases h
    | true => rw [e9] at h; cases h; exact Le.rf σ
  · cases h
theorem le_sQ {σ τ : Mem} {a : Nat} {i : Int32} {x : Option Nat} (h : sQ σ a i x = some τ) : Le σ τ := by
  obtain ⟨t, n, f, -, -, -, -, rfl⟩ := sQ_some h
  exact Le.rf σ
theorem cpI_some {σ τ : Mem} {b a : Nat} {sp dp n : Int32} (h : cpI σ b sp a dp n = some τ) : ∃ n0 f n1 g, σ.2.2 b = .inl (0, n0, .inl f) ∧ σ.2.2 a = .inl (0, n1, .inl g) ∧ ¬ sp < 0 ∧ ¬ dp < 0 ∧ ¬ n < 0 ∧ sp.toNatClampNeg + n.toNatClampNeg ≤ n0 ∧ dp.toNatClampNeg + n.toNatClampNeg ≤ n1 ∧
    τ = setC σ a (.inl (0, n1, .inl (va_cpy f g sp.toNatClampNeg dp.toNatClampNeg n.toNatClampNeg))) := by
  unfold cpI at h
  split at h
  · rename_i t0 n0 f hb
    split at h
    · rename_i t1 n1 g ha
      cases e9 : (t0 == 0 && t1 == 0 && !decide (sp < 0) && !decide (dp < 0) && !decide (n < 0) && Nat.ble (sp.toNatClampNeg + n.toNatClampNeg) n0 && Nat.ble (dp.toNatClampNeg + n.toNatClampNeg) n1) with
      | false => rw [e9] at h; cases h
      | true =>
        rw [e9] at h
        simp only [Bool.and_eq_true, beq_iff_eq, Bool.not_eq_true', decide_eq_false_iff_not, Nat.ble_eq] at e9
        obtain ⟨⟨⟨⟨⟨⟨rfl, rfl⟩, h1⟩, h2⟩, h3⟩, h4⟩, h5⟩ := e9
        simp only [cond_true, Option.some.injEq] at h
        exact ⟨n0, f, n1, g, hb, ha, h1, h2, h3, h4, h5, h.symm⟩
    · cases h
  · cases h
theorem le_cp {σ τ : Mem} {b a : Nat} {sp dp n : Int32} (h : cpI σ b sp a dp n = some τ) : Le σ τ := by
  obtain ⟨_, _, _, _, -, -, -, -, -, -, -, rfl⟩ := cpI_some h
  exact Le.rf σ
theorem le_add (σ : Mem) (k : Nat) (c : MCQ) : Le σ (addC σ k c) := ⟨Nat.le_succ _, Nat.le_add_right _ _⟩
theorem le_newA {σ : Mem} {t : Nat} {n : Int32} {q : Nat × Mem} (h : newA σ t n = some q) : Le σ q.2 := by
  unfold newA at h
  cases e9 : (!decide (n < 0) && Nat.ble n.toNatClampNeg 1000000) with
  | false => rw [e9] at h; cases h
  | true => rw [e9] at h; cases h; exact le_add _ _ _
set_option maxHeartbeats 8000000 in
theorem step_gro (rk : Nat) (e : EE) (ls : Ls) (st : List Value) (σ : Mem) : Gro σ (fun kc kn => stepQ kc kn rk e ls st σ) := by
  unfold stepQ
  split <;> (repeat' first
    | exact Gro.ret
    | exact Gro.no
    | exact Gro.nxt (Le.rf σ)
    | exact Gro.nxt (le_add _ _ _)
    | exact Gro.rsw _ _
    | exact Gro.rI
    | refine Gro.rO (fun _ h => Gro.nxt (le_pF h))
    | refine Gro.rO (fun _ h => Gro.nxt (le_sI h))
    | refine Gro.rO (fun _ h => Gro.nxt (le_sB h))
    | refine Gro.rO (fun _ h => Gro.nxt (le_sL h))
    | refine Gro.rO (fun _ h => Gro.nxt (le_sQ h))
    | refine Gro.rO (fun _ h => Gro.nxt (le_cp h))
    | refine Gro.rO (fun _ h => Gro.nxt (le_newA h))
    | refine Gro.rO (fun _ _ => ?_)
    | refine Gro.rN ?_ (fun _ => ?_)
    | refine Gro.ite ?_ ?_
    | refine Gro.cnd ?_ ?_
    | split)
theorem ev_le : ∀ (n d m pc : Nat) (ls : Ls) (st : List Value) (σ : Mem) (r : Rs), ev n d m pc ls st σ = some r → Le σ r.2 := by
  intro n
  induction n with
  | zero => intro d m pc ls st σ r h; cases h
  | succ n ih =>
    intro d m pc ls st σ r h
    rw [ev] at h
    unfold stepAt at h
    split at h
    · cases h
    · refine step_gro _ _ _ _ _ _ _ ?_ ?_ r h
      · intro m' a τ r' h'
        cases d with
        | zero => cases h'
        | succ d => exact ih _ _ _ _ _ _ _ h'
      · intro p l s τ r' h'
        exact ih _ _ _ _ _ _ _ h'
theorem W_sz {p : Program} {l : Launch} {e : Env} {R : Room} {s : State} {m : MethodId} {args : Array Value} {below : List Frame} {meth : Method} {c : Code} {H : Heap} {locs : List Loc} {cells slots : Nat} {Q : State → Prop} {g : JFrame}
    (k : H.size ≤ s.heap.size + cells → W p l e R s m args below meth c H locs cells slots Q g) : W p l e R s m args below meth c H locs cells slots Q g := fun T hT X => k (by rw [← hT]; exact X.heapSize) T hT X
section ROWS3
variable {G : GP} {D : va_G} {L : Nat} {xs : Nat → Int32} {adV : Nat → Nat} {p : Program} {l : Launch} {e : Env} {R : Room} {s : State} {mi : MethodId} {args : Array Value} {below : List Frame} {meth : Method} {c : Code} {H : Heap} {locs : List Loc} {cells slots : Nat} {Q : State → Prop}
  {m pc : Nat} {ls : Array Slot} {rest : List Value} {σ : Mem}
/-- the heap is just as large as the small memory says -/
theorem At_size {n0 : Nat} (hA : AtQ G D L xs s σ H locs) (h0 : s.heap.size = G.1 + n0) (hc : cells + n0 = σ.1) (hz : H.size ≤ s.heap.size + cells) : H.size = G.1 + σ.1 := by
  have h1 : G.1 + σ.1 ≤ H.size := by
    cases hs : σ.1 with
    | zero => have := hA.2.1.1; omega
    | succ k =>
      have h2 := (hA.1 k _ (wd_at (by omega))).lt
      dsimp only at h2
      omega
  omega
theorem new_name {q : Nat} {x : va_E} {H1 : Heap} {n0 : Nat} (h0 : s.heap.size = G.1 + n0) (hc : cells + n0 = σ.1) (hP : va_P D classes (wd G σ ++ [(q, x)]) H1) (hD : va_D (fun q => G.1 ≤ q) (wd G σ ++ [(q, x)])) (hz : H1.size ≤ s.heap.size + (cells + 1)) : q = G.1 + σ.1 := by
  have hl : (wd G σ ++ [(q, x)])[σ.1]? = some (q, x) := by
    rw [List.getElem?_append_right (by rw [wd_len]; exact Nat.le_refl _), wd_len, Nat.sub_self]; rfl
  have h1 := (hP _ _ hl).lt
  have h2 : G.1 ≤ q := hD.2 _ _ hl
  dsimp only at h1
  rcases Nat.lt_or_ge (q - G.1) σ.1 with g | g
  · have h3 : (wd G σ ++ [(q, x)])[q - G.1]? = some (G.1 + (q - G.1), ce G (σ.2.2 (q - G.1))) := by
      rw [List.getElem?_append_left (by rw [wd_len]; exact g), wd_at g]
    have h4 := hD.1 _ _ _ _ h3 hl (by dsimp only; omega)
    omega
  · omega
theorem r_new (C : Ctx G D L xs adV p s mi args meth c m) (hm : m < 277) (hA : AtQ G D L xs s σ H locs) {n0 i ci : Nat} (h0 : s.heap.size = G.1 + n0) (hc : cells + n0 = σ.1) (hbig : σ.1 + 1 ≤ 1000000) (hf : ∃ q ∈ CLk, q.1 = cNo m ∧ q.2.1 = i ∧ q.2.2.1 = ci) (hci : ci < 10)
    (hcl : cells + 1 ≤ R.cells) (hsl : slots + (cD ci).2.2 ≤ R.slots) (hdg : decode (bc m) pc = .ok (.new i, 3))
    (kk : ∀ (H1 : Heap), AtQ G D L xs s (addC σ (cD ci).2.2 (.inr (ci, dfl ci))) H1 locs → W p l e R s mi args below meth c H1 locs (cells + 1) (slots + (cD ci).2.2) Q (F0 mi (pc + 3) ls (.ref (adr G σ.1) :: rest))) :
    W p l e R s mi args below meth c H locs cells slots Q (F0 mi pc ls rest) := by
  obtain ⟨q, hq, e1, e2, e3⟩ := hf
  have hw := ckC q hq
  obtain ⟨a1, a2, a3, a4⟩ := q
  dsimp only at e1 e2 e3 hw
  subst e1; subst e2; subst e3
  rw [← ckO m hm] at hw
  obtain ⟨hk1, hk2⟩ := ckI a3 hci
  obtain ⟨g1, g2, g3⟩ := c_ck a3 hci
  rw [← g2] at hw hk1 hk2
  rw [g1] at hk1
  obtain ⟨hx, hb, -, hown, -, -, -, hts, hX⟩ := C
  have hdf : (dfl a3).map (cv G) = dfl a3 := by
    apply List.ext_getElem?
    intro k
    rw [List.getElem?_map]
    rcases Nat.lt_or_ge k (dfl a3).length with hk | hk
    · have h9 := (c_df a3 hci k (by omega)).2
      rw [List.getD_eq_getElem?_getD, List.getElem?_eq_getElem hk, Option.getD_some] at h9
      rw [List.getElem?_eq_getElem hk]
      rcases h9 with h9 | h9 <;> (rw [h9]; rfl)
    · rw [List.getElem?_eq_none hk]; rfl
  refine va_new (ci := a3) (C := (cD a3).1) (T := (cD a3).2.1) (N := (cD a3).2.2) (fs := dfl a3) hx hb hts (c_ws a3 hci) (cty a3) (c_ty a3 hci) hown (hts _ (gw_of hw rfl)) (hts _ (gw_of hk1 rfl)) (hts _ (gw_of hk2 rfl)) hX.1 hA.1 (wd_D G σ) hA.2.1 (fun q h => by show G.1 ≤ q; omega) (c_at a3 hci) (fun j hj => (c_df a3 hci j hj).1) hcl hsl hdg (fun q H1 hP hD hS => ?_)
  refine W_sz (fun hz => ?_)
  have hqe := new_name h0 hc hP hD hz
  have had : adr G σ.1 = q := by
    unfold adr
    rw [if_pos (by omega), hqe]
  rw [← had]
  refine kk H1 ⟨?_, hS, wf_add hA.2.2 hbig (fun q h => by cases h)⟩
  rw [wd_add]
  show va_P D classes (wd G σ ++ [(G.1 + σ.1, .inr (a3, (dfl a3).map (cv G)))]) H1
  rw [hdf, ← hqe]
  exact hP
theorem RA_eq {U : State} {a b : ClassId} {ty : FieldType} (h : va_RA U a ty) (k : va_RA U b ty) : a = b := by
  cases ty with
  | object C =>
    obtain ⟨_, _, -, -, -, h⟩ := h
    obtain ⟨_, _, -, -, -, k⟩ := k
    exact Option.some.inj (h.symm.trans k)
  | _ => exact Option.some.inj (Eq.trans (Eq.symm h) k)
theorem newA_some {t : Nat} {n : Int32} {q : Nat × Mem} (h : newA σ t n = some q) : ¬ n < 0 ∧ n.toNatClampNeg ≤ 1000000 ∧ q = (σ.1, addC σ n.toNatClampNeg (.inl (t, n.toNatClampNeg, bif t == 3 then .inr (.inl (fun _ => 0)) else bif t == 4 || t == 5 then .inr (.inr (.inr (.inr (fun _ => none)))) else .inl (fun _ => 0)))) := by
  unfold newA at h
  cases e9 : (!decide (n < 0) && Nat.ble n.toNatClampNeg 1000000) with
  | false => rw [e9] at h; cases h
  | true =>
    rw [e9] at h
    simp only [Bool.and_eq_true, Bool.not_eq_true', decide_eq_false_iff_not, Nat.ble_eq] at e9
    simp only [cond_true, Option.some.injEq] at h
    exact ⟨e9.1, e9.2, h.symm⟩
theorem awd : ∀ t : ArrayType, tagOf t < 4 → Cond.arrayClass (newarray.typeOf t) ∈ lw_tbl := by
  intro t
  cases t <;> first | (intro h; exact absurd h (by decide)) | (intro _; decide +kernel)
theorem r_newa (C : Ctx G D L xs adV p s mi args meth c m) (hA : AtQ G D L xs s σ H locs) {n0 : Nat} {n : Int32} {at_ : ArrayType} {q : Nat × Mem} (h0 : s.heap.size = G.1 + n0) (hc : cells + n0 = σ.1) (hbig : σ.1 + 1 ≤ 1000000) (ht : tagOf at_ < 4) (hv : newA σ (tagOf at_) n = some q)
    (hcl : cells + 1 ≤ R.cells) (hsl : slots + n.toNatClampNeg ≤ R.slots) (hdg : decode (bc m) pc = .ok (.newarray at_, 2))
    (kk : ∀ (H1 : Heap), AtQ G D L xs s q.2 H1 locs → W p l e R s mi args below meth c H1 locs (cells + 1) (slots + n.toNatClampNeg) Q (F0 mi (pc + 2) ls (.ref (adr G q.1) :: rest))) :
    W p l e R s mi args below meth c H locs cells slots Q (F0 mi pc ls (.int n :: rest)) := by
  obtain ⟨hx, hb, -, hown, -, -, -, hts, hX⟩ := C
  obtain ⟨hn, hN, rfl⟩ := newA_some hv
  dsimp only at kk
  have harr : (Cond.arrayClass (newarray.typeOf at_)).before args s = true := hts _ (List.mem_filter.mpr ⟨awd at_ ht, rfl⟩)
  have fin : ∀ (tg : Nat) (ty : FieldType) (a0 : vp_A) (cx : (Nat → Int32) ⊕ (Nat → Int64) ⊕ (Nat → UInt32) ⊕ (Nat → UInt64) ⊕ (Nat → Option Nat)), tagOf at_ = tg → tg < 4 → (tysF G)[tg]? = some (G.2.2.2 tg, ty) → (n.toNatClampNeg, cct G cx) = a0 → newarray.typeOf at_ = ty →
      (bif tagOf at_ == 3 then (.inr (.inl (fun _ => 0)) : (Nat → Int32) ⊕ (Nat → Int64) ⊕ (Nat → UInt32) ⊕ (Nat → UInt64) ⊕ (Nat → Option Nat)) else bif tagOf at_ == 4 || tagOf at_ == 5 then .inr (.inr (.inr (.inr (fun _ => none)))) else .inl (fun _ => 0)) = cx →
      (∀ cA : ClassId, vp_cell cA a0 = arrV cA n.toNatClampNeg (fun _ => defaultValue ty)) → n.toNatClampNeg * componentBytes ty ≤ 536870912 → W p l e R s mi args below meth c H locs cells slots Q (F0 mi pc ls (.int n :: rest)) := by
    intro tg ty a0 cx e1 hlt e2 e3 e4 e5 e6 e7
    refine va_newa hx hb harr e4 hX.1 hA.1 (wd_D G σ) hA.2.1 (fun q h => by show G.1 ≤ q; omega) e6 hn rfl e7 hcl hsl hdg (fun q cA H1 hK hP hD hS => ?_)
    refine W_sz (fun hz => ?_)
    have hqe := new_name h0 hc hP hD hz
    have had : adr G σ.1 = q := by
      unfold adr
      rw [if_pos (by omega), hqe]
    have hcA : cA = G.2.2.2 tg := by
      have g1 := (hK.2 6 (cA, ty) rfl).2
      have g2 := (hX.1.2 tg _ e2).2
      exact RA_eq g1 g2
    rw [← had]
    refine kk H1 ⟨?_, hS, wf_add hA.2.2 hbig (fun q h => by cases h; show tagOf at_ < 6; omega)⟩
    rw [wd_add]
    show va_P D classes (wd G σ ++ [(G.1 + σ.1, .inl (G.2.2.2 (tagOf at_), n.toNatClampNeg, cct G _))]) H1
    rw [e5, e1, ← hcA, ← hqe, e3]
    exact hP
  cases at_ <;> first
    | (exact absurd ht (by decide))
    | exact fin 0 .int _ (.inl (fun _ => 0)) rfl (by decide) rfl rfl rfl rfl (fun _ => rfl) (by show _ * 4 ≤ _; omega)
    | exact fin 1 .byte _ (.inl (fun _ => 0)) rfl (by decide) rfl rfl rfl rfl (fun _ => rfl) (by show _ * 1 ≤ _; omega)
    | exact fin 2 .boolean _ (.inl (fun _ => 0)) rfl (by decide) rfl rfl rfl rfl (fun _ => rfl) (by show _ * 1 ≤ _; omega)
    | exact fin 3 .long _ (.inr (.inl (fun _ => 0))) rfl (by decide) rfl rfl rfl rfl (fun _ => rfl) (by show _ * 8 ≤ _; omega)
end ROWS3
