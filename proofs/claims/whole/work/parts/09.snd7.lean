/-! ===== soundness: runs keep the memory well formed; by induction on the steps ===== -/
theorem wf_pF {L : Nat} {xs : Nat → Int32} {σ τ : Mem} {ci a k : Nat} {v : Value} (h : pF σ ci a k v = some τ) (hw : wfM L xs σ) : wfM L xs τ := by
  obtain ⟨fs, h1, h2, rfl⟩ := pF_some h
  have ha : a < σ.1 := by
    rcases Nat.lt_or_ge a σ.1 with q | q
    · exact q
    · rw [hw.2.1 a q] at h1
      unfold extc at h1
      split at h1
      · cases h1
      · split at h1
        · cases h1
        · cases h1; exact absurd h2 (by simp)
  exact wf_set hw ha (fun q e => by cases e)
theorem wf_sI {L : Nat} {xs : Nat → Int32} {σ τ : Mem} {a : Nat} {i x : Int32} (h : sI σ a i x = some τ) (hw : wfM L xs σ) : wfM L xs τ := by
  unfold sI at h
  split at h
  · rename_i t n f hc
    cases e9 : (t == 0 && inb i n) with
    | false => rw [e9] at h; cases h
    | true =>
      rw [e9] at h
      cases h
      simp only [Bool.and_eq_true, beq_iff_eq] at e9
      have ht := e9.1
      exact wf_set hw (wf_arr hw hc (by omega)) (fun q e => by cases e; show t < 6; omega)
  · cases h
theorem wf_sB {L : Nat} {xs : Nat → Int32} {σ τ : Mem} {a : Nat} {i x : Int32} (h : sB σ a i x = some τ) (hw : wfM L xs σ) : wfM L xs τ := by
  unfold sB at h
  split at h
  · rename_i t n f hc
    cases e9 : ((t == 1 || t == 2) && inb i n) with
    | false => rw [e9] at h; cases h
    | true =>
      rw [e9] at h
      cases h
      simp only [Bool.and_eq_true, Bool.or_eq_true, beq_iff_eq] at e9
      have ht := e9.1
      exact wf_set hw (wf_arr hw hc (by omega)) (fun q e => by cases e; show t < 6; omega)
  · cases h
theorem wf_sL {L : Nat} {xs : Nat → Int32} {σ τ : Mem} {a : Nat} {i : Int32} {x : Int64} (h : sL σ a i x = some τ) (hw : wfM L xs σ) : wfM L xs τ := by
  unfold sL at h
  split at h
  · rename_i t n f hc
    cases e9 : (t == 3 && inb i n) with
    | false => rw [e9] at h; cases h
    | true =>
      rw [e9] at h
      cases h
      simp only [Bool.and_eq_true, beq_iff_eq] at e9
      have ht := e9.1
      exact wf_set hw (wf_arr hw hc (by omega)) (fun q e => by cases e; show t < 6; omega)
  · cases h
theorem wf_sQ {L : Nat} {xs : Nat → Int32} {σ τ : Mem} {a : Nat} {i : Int32} {x : Option Nat} (h : sQ σ a i x = some τ) (hw : wfM L xs σ) : wfM L xs τ := by
  obtain ⟨t, n, f, hc, ht, -, -, rfl⟩ := sQ_some h
  exact wf_set hw (wf_arr hw hc (by omega)) (fun q e => by cases e; show t < 6; omega)
theorem wf_cp {L : Nat} {xs : Nat → Int32} {σ τ : Mem} {b a : Nat} {sp dp n : Int32} (h : cpI σ b sp a dp n = some τ) (hw : wfM L xs σ) : wfM L xs τ := by
  obtain ⟨_, _, _, _, -, hc, -, -, -, -, -, rfl⟩ := cpI_some h
  exact wf_set hw (wf_arr hw hc (by omega)) (fun q e => by cases e; exact Nat.zero_lt_succ 5)
/-- a part of a step keeps the memory well formed -/
def Wfo (L : Nat) (xs : Nat → Int32) (σ : Mem) (F : (Nat → List Value → Mem → Option Rs) → (Nat → Ls → List Value → Mem → Option Rs) → Option Rs) : Prop :=
  ∀ kc kn, (∀ m a τ r, kc m a τ = some r → Le τ r.2 ∧ (wfM L xs τ → r.2.1 ≤ 1000000 → wfM L xs r.2)) → (∀ p l s τ r, kn p l s τ = some r → Le τ r.2 ∧ (wfM L xs τ → r.2.1 ≤ 1000000 → wfM L xs r.2)) → ∀ r, F kc kn = some r → wfM L xs σ → r.2.1 ≤ 1000000 → wfM L xs r.2
section WFO
variable {L : Nat} {xs : Nat → Int32} {σ : Mem}
theorem Wfo.ret {v : Option Value} : Wfo L xs σ (fun _ _ => some (v, σ)) := fun _ _ _ _ r h hw _ => by cases h; exact hw
theorem Wfo.no : Wfo L xs σ (fun _ _ => none) := fun _ _ _ _ r h => by cases h
theorem Wfo.nxt {pc : Nat} {ls : Ls} {st : List Value} : Wfo L xs σ (fun _ kn => kn pc ls st σ) := fun _ _ _ hn r e hw hb => (hn _ _ _ _ r e).2 hw hb
theorem Wfo.nxt' {τ : Mem} {pc : Nat} {ls : Ls} {st : List Value} (h : wfM L xs σ → wfM L xs τ) : Wfo L xs σ (fun _ kn => kn pc ls st τ) := fun _ _ _ hn r e hw hb => (hn _ _ _ _ r e).2 (h hw) hb
theorem Wfo.add {pc k : Nat} {c : MCQ} {ls : Ls} {st : List Value} (hc : ∀ q, c = .inl q → q.1 < 6) : Wfo L xs σ (fun _ kn => kn pc ls st (addC σ k c)) := by
  intro _ _ _ hn r e hw hb
  obtain ⟨h1, h2⟩ := hn _ _ _ _ r e
  have h3 : σ.1 + 1 ≤ r.2.1 := h1.1
  exact h2 (wf_add hw (by omega) hc) hb
theorem Wfo.rO {α : Type} {o : Option α} {f : α → (Nat → List Value → Mem → Option Rs) → (Nat → Ls → List Value → Mem → Option Rs) → Option Rs} (h : ∀ x, o = some x → Wfo L xs σ (f x)) : Wfo L xs σ (fun kc kn => bO o (fun x => f x kc kn)) := by
  cases o with
  | none => exact Wfo.no
  | some x => exact h x rfl
theorem Wfo.rN {q : Option Nat} {f : (Nat → List Value → Mem → Option Rs) → (Nat → Ls → List Value → Mem → Option Rs) → Option Rs} {g : Nat → (Nat → List Value → Mem → Option Rs) → (Nat → Ls → List Value → Mem → Option Rs) → Option Rs} (hf : Wfo L xs σ f) (h : ∀ x, Wfo L xs σ (g x)) : Wfo L xs σ (fun kc kn => bN q (f kc kn) (fun x => g x kc kn)) := by
  cases q with
  | none => exact hf
  | some x => exact h x
theorem Wfo.ite {c : Prop} [Decidable c] {f g : (Nat → List Value → Mem → Option Rs) → (Nat → Ls → List Value → Mem → Option Rs) → Option Rs} (hf : Wfo L xs σ f) (hg : Wfo L xs σ g) : Wfo L xs σ (fun kc kn => if c then f kc kn else g kc kn) := by
  by_cases h : c
  · simp only [h, if_true]; exact hf
  · simp only [h, if_false]; exact hg
theorem Wfo.cnd {c : Bool} {f g : (Nat → List Value → Mem → Option Rs) → (Nat → Ls → List Value → Mem → Option Rs) → Option Rs} (hf : Wfo L xs σ f) (hg : Wfo L xs σ g) : Wfo L xs σ (fun kc kn => bif c then f kc kn else g kc kn) := by
  cases c
  · exact hg
  · exact hf
theorem Wfo.rsw {x : Int32} {dflt : Nat} {ls : Ls} {st : List Value} : ∀ (ks : List Int32) (ts : List Nat), Wfo L xs σ (fun _ kn => sw (fun t => kn t ls st σ) x dflt ks ts)
  | [], _ => Wfo.nxt
  | _ :: _, [] => Wfo.nxt
  | k :: ks, t :: ts => Wfo.ite (f := fun _ kn => kn t ls st σ) (g := fun _ kn => sw (fun t => kn t ls st σ) x dflt ks ts) Wfo.nxt (Wfo.rsw ks ts)
theorem Wfo.rI {mt r : Nat} {args rest : List Value} {pc : Nat} {ls : Ls} : Wfo L xs σ (fun kc kn => ivk kc (fun st σ => kn pc ls st σ) mt r args rest σ) := by
  intro kc kn hc hn r0 h hw hb
  obtain ⟨r1, τ, e1, e2⟩ := ivk_some h
  obtain ⟨h1, h2⟩ := hc _ _ _ _ e1
  obtain ⟨h3, h4⟩ := hn _ _ _ _ _ e2
  have h5 : τ.1 ≤ r0.2.1 := h3.1
  exact h4 (h2 hw (by show τ.1 ≤ _; omega)) hb
theorem Wfo.newA {t pc : Nat} {n : Int32} {ls : Ls} {st : List Value} (ht : t < 6) : Wfo L xs σ (fun _ kn => bO (newA σ t n) fun q => kn pc ls (.ref q.1 :: st) q.2) := by
  refine Wfo.rO (fun q h => ?_)
  obtain ⟨-, -, rfl⟩ := newA_some h
  exact Wfo.add (fun q e => by cases e; exact ht)
end WFO
set_option maxHeartbeats 8000000 in
theorem step_wf {L : Nat} {xs : Nat → Int32} (m rk : Nat) (e : EE) (ok : okb m e = true) (ls : Ls) (st : List Value) (σ : Mem) : Wfo L xs σ (fun kc kn => stepQ kc kn rk e ls st σ) := by
  obtain ⟨pc, ins, ln, ns, ks, js⟩ := e
  have hnew : ∀ t, ins = .newarray t ∨ (∃ i, ins = .anewarray i) → ns.getD 0 0 < 6 := by
    intro t h
    unfold okb at ok
    rw [Bool.and_eq_true] at ok
    have ok := ok.2
    rcases h with rfl | ⟨i, rfl⟩
    · simp only [nsq, lnq, Bool.and_eq_true, beq_iff_eq, Nat.blt_eq] at ok
      rw [ok.1.1]
      show tagOf t < 6
      omega
    · simp only [lnq, Bool.and_eq_true, beq_iff_eq] at ok
      have ok2 := ok.2
      split at ok2
      · decide
      · decide
      · cases ok2
  unfold stepQ
  dsimp only
  split <;> (repeat' first
    | exact Wfo.ret
    | exact Wfo.no
    | exact Wfo.nxt
    | exact Wfo.add (fun q e => by cases e)
    | exact Wfo.rsw _ _
    | exact Wfo.rI
    | exact Wfo.newA (hnew _ (Or.inl rfl))
    | exact Wfo.newA (hnew .int (Or.inr ⟨_, rfl⟩))
    | refine Wfo.rO (fun _ h => Wfo.nxt' (wf_pF h))
    | refine Wfo.rO (fun _ h => Wfo.nxt' (wf_sI h))
    | refine Wfo.rO (fun _ h => Wfo.nxt' (wf_sB h))
    | refine Wfo.rO (fun _ h => Wfo.nxt' (wf_sL h))
    | refine Wfo.rO (fun _ h => Wfo.nxt' (wf_sQ h))
    | refine Wfo.rO (fun _ h => Wfo.nxt' (wf_cp h))
    | refine Wfo.rO (fun _ _ => ?_)
    | refine Wfo.rN ?_ (fun _ => ?_)
    | refine Wfo.ite ?_ ?_
    | refine Wfo.cnd ?_ ?_
    | split)
set_option maxRecDepth 100000 in
theorem pgs_len : pgs.length = 277 := rfl
theorem ins_lt {m pc : Nat} {e : EE} (h : insAt m pc = some e) : m < 277 := by
  rcases Nat.lt_or_ge m 277 with q | q
  · exact q
  · unfold insAt at h
    rw [List.getD_eq_getElem?_getD, List.getElem?_eq_none (by rw [pgs_len]; exact q)] at h
    cases h
theorem ins_ok {m pc : Nat} {e : EE} (h : insAt m pc = some e) : okb m e = true ∧ e.1 = pc := by
  have hm := ins_lt h
  unfold insAt at h
  refine ⟨okAll m hm e (List.mem_of_find?_eq_some h), ?_⟩
  have := List.find?_some h
  simpa using this
theorem ev_wf {L : Nat} {xs : Nat → Int32} : ∀ (n d m pc : Nat) (ls : Ls) (st : List Value) (σ : Mem) (r : Rs), ev n d m pc ls st σ = some r → wfM L xs σ → r.2.1 ≤ 1000000 → wfM L xs r.2 := by
  intro n
  induction n with
  | zero => intro d m pc ls st σ r h; cases h
  | succ n ih =>
    intro d m pc ls st σ r h hw hb
    rw [ev] at h
    unfold stepAt at h
    split at h
    · cases h
    · rename_i e he
      refine step_wf m _ e (ins_ok he).1 _ _ _ _ _ ?_ ?_ r h hw hb
      · intro m' a τ r' h'
        cases d with
        | zero => cases h'
        | succ d => exact ⟨ev_le _ _ _ _ _ _ _ _ h', ih _ _ _ _ _ _ _ h'⟩
      · intro p l s τ r' h'
        exact ⟨ev_le _ _ _ _ _ _ _ _ h', ih _ _ _ _ _ _ _ h'⟩
theorem met_of (G : GP) (D : va_G) (L : Nat) (xs : Nat → Int32) (adV : Nat → Nat) (l : Launch) (n : Nat)
    (ih : ∀ (d m pc : Nat) (ls : Ls) (st : List Value) (σ : Mem) (r : Option Value) (σ' : Mem), ev n d m pc ls st σ = some (r, σ') → m < 277 → σ'.1 ≤ 1000000 → Runs G D L xs adV l d m pc ls st σ r σ')
    (d m : Nat) (av : List Value) (σ : Mem) (r : Option Value) (σ' : Mem) (h : ev n d m 0 (lv_args 0 av) [] σ = some (r, σ')) (hm : m < 274) (hb : σ'.1 ≤ 1000000) (hw : wfM L xs σ) (hlg : (lg_sl (av.map (cv G))).length ≤ mxL m) : MetS G D L xs adV l d m av σ r σ' ∧ wfM L xs σ' := by
  have hle := ev_le _ _ _ _ _ _ _ _ h
  have hl1 : σ.1 ≤ σ'.1 := hle.1
  have hl2 : σ.2.1 ≤ σ'.2.1 := hle.2
  refine ⟨?_, ev_wf _ _ _ _ _ _ _ _ h hw hb⟩
  unfold MetS
  refine Met.ofW (cc := bc m) (maxL := mxL m) (ret := rtT m) (ckD m hm).2.2.2.2.1 rfl ?_
  intro p e s mi args below meth c s₁ B hml hv
  obtain ⟨rfl, hsz, hP, hX⟩ := hv
  have hts0 := atoms_spec (ws := wsM m) B.pre
  have hts : ∀ w ∈ GW, w.before _ s = true := fun w hw' => hts0 w (List.mem_cons_of_mem _ hw')
  have hown : s.vm.findClass (own m) = some mi.cls := findClass_of_methodNamed B.named
  have hlocks := B.notSynchronized
  have hr := B.returns
  have hC : Ctx G D L xs adV p s mi (av.map (cv G)).toArray meth c m := ⟨B.exec, B.bytes, hml, hown, B.returns, B.notSynchronized, fun h1 => by rw [(name_of_methodNamed B.named B.method).1]; exact (ckD m hm).2.2.2.1 h1, hts, hX⟩
  have hA : AtQ G D L xs s σ s.heap [] := ⟨hP, va_S.rf, hw⟩
  have hl := lv_entry (av.map (cv G)) (n := mxL m) hlg
  rw [lg_entry_eq]
  generalize (lg_sl (av.map (cv G)) ++ List.replicate (mxL m - (lg_sl (av.map (cv G))).length) Slot.unset).toArray = ls at hl ⊢
  have hmap : ∀ (k : Nat) (vs : List Value), lv_args k (vs.map (cv G)) = (lv_args k vs).map (cvl G) := by
    intro k vs
    induction vs generalizing k with
    | nil => rfl
    | cons v vs ihv =>
      show (k, cv G v) :: lv_args (if (cv G v).category = 2 then k + 2 else k + 1) (vs.map (cv G)) = (k, cv G v) :: (lv_args (if v.category = 2 then k + 2 else k + 1) vs).map (cvl G)
      rw [cat_cv, ihv]
  rw [hmap] at hl
  refine ih d m 0 (lv_args 0 av) [] σ r σ' h (by omega) hb p e (headSpec (wsM m) (rmD d (σ'.1 - σ.1) (σ'.2.1 - σ.2.1))).room s mi _ below meth c s.heap [] 0 0 _ ls σ.1 hC hA hl hsz (by omega) (by show σ'.1 ≤ (σ'.1 - σ.1) + σ.1; omega) (by show 0 + σ'.2.1 ≤ (σ'.2.1 - σ.2.1) + σ.2.1; omega) (Nat.le_refl _) (Nat.le_refl _) ?_
  intro H1 locs1 cells1 slots1 pc1 ls1 hA1 hc1 hs1 hret
  have hce : cells1 = σ'.1 - σ.1 := by omega
  have hse : slots1 = σ'.2.1 - σ.2.1 := by omega
  rw [hce, hse]
  have hq : ∀ t : State, t.heap = H1 → s.WarmedH t.vm → QQc G D r σ' (av.map (cv G)).toArray s (.returned (r.map (cv G))) t := fun t ht _ => ⟨rfl, by rw [ht]; exact hA1.1, hA1.2.1.F ht⟩
  have hf : ∀ q ∈ locs1, G.1 ≤ q.base := hA1.2.1.2.2
  match r, hret, hq with
  | none, hret, hq => exact W.vret B.exec B.bytes (by rw [hr]; exact hret.2) hq hf hret.1
  | some (.int v), hret, hq =>
    rcases hret.2 with h9 | ⟨h9, hz⟩
    · exact W.iret B.exec B.bytes (by rw [hr]; exact h9) hq hf hret.1
    · exact W.zret B.exec B.bytes (by rw [hr]; exact h9) (nar_Z (G := G) hz).1 hq hf hret.1
  | some (.long v), hret, hq => exact W.lret B.exec B.bytes (by rw [hr]; exact hret.2) hq hf hret.1
  | some (.ref v), hret, hq =>
    obtain ⟨ty, h9, h8⟩ : ∃ ty, rtT m = some ty ∧ ((∃ n, ty = .object n) ∨ ∃ t, ty = .array t) := by
      have h7 := hret.2
      cases e7 : rtT m with
      | none => rw [e7] at h7; cases h7
      | some ty =>
        rw [e7] at h7
        cases ty <;> first | (cases h7; done) | exact ⟨_, rfl, Or.inl ⟨_, rfl⟩⟩ | exact ⟨_, rfl, Or.inr ⟨_, rfl⟩⟩
    exact W.aret B.exec B.bytes (by rw [hr]; exact h9) h8 (Or.inr ⟨_, rfl⟩) hq hf hret.1
  | some .null, hret, hq =>
    obtain ⟨ty, h9, h8⟩ : ∃ ty, rtT m = some ty ∧ ((∃ n, ty = .object n) ∨ ∃ t, ty = .array t) := by
      have h7 := hret.2
      cases e7 : rtT m with
      | none => rw [e7] at h7; cases h7
      | some ty =>
        rw [e7] at h7
        cases ty <;> first | (cases h7; done) | exact ⟨_, rfl, Or.inl ⟨_, rfl⟩⟩ | exact ⟨_, rfl, Or.inr ⟨_, rfl⟩⟩
    exact W.aret B.exec B.bytes (by rw [hr]; exact h9) h8 (Or.inl rfl) hq hf hret.1
  | some (.float _), hret, hq => exact hret.elim
  | some (.double _), hret, hq => exact hret.elim
  | some (.retAddr _), hret, hq => exact hret.elim
/-- WHAT THE SMALL MACHINE RUNS, THE GREAT ONE DOES -/
theorem snd (G : GP) (D : va_G) (L : Nat) (xs : Nat → Int32) (adV : Nat → Nat) (l : Launch) : ∀ (n d m pc : Nat) (ls : Ls) (st : List Value) (σ : Mem) (r : Option Value) (σ' : Mem), ev n d m pc ls st σ = some (r, σ') → m < 277 → σ'.1 ≤ 1000000 → Runs G D L xs adV l d m pc ls st σ r σ' := by
  intro n
  induction n with
  | zero => intro d m pc ls st σ r σ' h; cases h
  | succ n ih =>
    intro d m pc ls st σ r σ' h hm hb
    rw [ev] at h
    replace h : stepAt (kcE n d) (fun pc' ls' st' σ' => ev n d m pc' ls' st' σ') m pc ls st σ = some (r, σ') := by
      cases d with
      | zero => exact h
      | succ d => exact h
    unfold stepAt at h
    split at h
    · cases h
    · rename_i e he
      obtain ⟨h1, h2⟩ := ins_ok he
      obtain ⟨pc0, ins, ln, ns, ks, js⟩ := e
      dsimp only at h2
      subst h2
      have h3 := snd_step G D L xs adV l n d m hm r σ' hb ih (met_of G D L xs adV l n ih) pc0 ln ns ks js ins (nrmAt m pc0 ls) st σ h1 h
      intro p e R s mi args below meth c H locs cells slots Q lsA n0 C hA hls
      exact h3 p e R s mi args below meth c H locs cells slots Q lsA n0 C hA (lv_nrm m pc0 hls)
