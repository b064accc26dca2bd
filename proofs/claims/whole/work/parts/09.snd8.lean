/-! THE CLAIM OUT OF ONE WALK OF THE LAW'S BODY. Your part is whole_start (and what it stands on); all else here is the same for every law, but numbers. -/
def R_law : String := "TallySticksLaw"
def lw_P (b : Addr) (xs : List Int32) (args : Array Value) (s : State) : Prop := args = #[.ref b] ∧ s.IntsAt b xs ∧ xs.length ≤ 448 ∧ (Jvm.Cond.and given_1 narrow_1).before args s = true
def lw_Q (_ : Array Value) (s : State) (o : Outcome) (t : State) : Prop := o = .returned (some (.int 1)) ∧ Framed s o t [] 600000 7302250
def lw_Z (below : List Frame) (a : Array Value) (s : State) : State → Prop := fun t => ∃ o, t.status = .running ∧ Ended t below o ∧ lw_Q a s o t
/-- the law's own end, with 1 on the stack, nothing written that was there before, its room as the claim has it -/
theorem lw_ret {p : Program} {l : Launch} {e : Env} {s : State} {m : MethodId} {below : List Frame} {meth : Method} {c : Code} {b : Nat} (hx : p.tables.exec = Jvm.exec) (hb : c.code = code) (hr : meth.sig.returnType = ret) (hlocks : meth.locks = false) {pc : Nat} {H : Heap} {ls : Array Slot} (hdg : decode code pc = .ok (.ireturn, 1)) : W p l e room_1 s m #[Value.ref b] below meth c H [] 600000 7302250 (lw_Z below #[Value.ref b] s) (F0 m pc ls [.int 1]) := by
  intro T hT X
  obtain ⟨fs, hret, hrun, hended, hW, hframe⟩ := X.leave (v := some (.int 1)) (hlocks := hlocks) (fun h => by rw [hr] at h; cases h)
  have hmeth' : T.vm.method? m = some meth := X.method'
  refine ⟨T.setFrames fs, ?_, .returned (some (.int 1)), hrun, hended, rfl, ⟨_, rfl⟩, hW, hframe⟩
  jvm_step X.here [X.here.top, hx, hb, hdg, hmeth', hr, ret, narrow_b1]
  (try refine ⟨rfl, ?_⟩); (try refine ⟨rfl, ?_⟩)
  first | (intro acts; rw [hret _ acts rfl rfl rfl]) | rw [hret _ _ rfl rfl rfl]
  exact Steps.refl _
/-- what holds at the law's entry: the machine, the code, the tables' words (any of lw_tbl by 'hts w (by decide +kernel)'), the script of L ints xs at the cell b, what the Statement gives of the start (any of its parts by flat_of_before) -/
def lw_At (p : Program) (s : State) (m : MethodId) (meth : Method) (c : Code) (b L : Nat) (xs : Nat → Int32) : Prop :=
  p.tables.exec = Jvm.exec ∧ c.code = code ∧ meth.sig.returnType = ret ∧ c.maxLocals = 4 ∧ s.vm.findClass R_law = some m.cls ∧ (∀ w ∈ lw_tbl, w.before #[Value.ref b] s = true) ∧ va_X b L xs s s.heap ∧ b < s.heap.size ∧ meth.locks = false ∧ (Jvm.Cond.and given_1 narrow_1).before #[Value.ref b] s = true
/-- from a run of the small machine to the walk of the law -/
def tyFt (t : Nat) : FieldType := match t with
  | 0 => .int
  | 1 => .byte
  | 2 => .boolean
  | 3 => .long
  | 4 => .object RX5
  | _ => .object RX1
theorem lyT (ci : Nat) (h : ci < 10) : ∀ w ∈ u_ws (cD ci).1 (cD ci).2.1 (cD ci).2.2, w ∈ lw_tbl := fun w hw => (List.mem_filter.mp (c_ws ci h w hw)).1
theorem arT : ∀ t, t < 4 → Cond.arrayClass (tyFt t) ∈ lw_tbl := by decide +kernel
theorem zqT : Cond.eq (.static "java/lang/String" "COMPACT_STRINGS" "Z") (.int 1) ∈ flatC (Jvm.Cond.and given_1 narrow_1) ∧ Cond.isRef (.static "jdk/internal/util/Preconditions" "SIOOBE_FORMATTER" "Ljava/util/function/BiFunction;") ∈ flatC (Jvm.Cond.and given_1 narrow_1) := by decide +kernel
theorem zlT : Cond.laysStatic "java/lang/String" "COMPACT_STRINGS" "Z" ∈ lw_tbl ∧ Cond.laysStatic "jdk/internal/util/Preconditions" "SIOOBE_FORMATTER" "Ljava/util/function/BiFunction;" ∈ lw_tbl ∧ Cond.initialized "java/lang/String" ∈ lw_tbl ∧ Cond.initialized "jdk/internal/util/Preconditions" ∈ lw_tbl := by decide +kernel
theorem law_k : mkd.getD 276 9 = 0 ∧ own 276 = R_law ∧ mxL 276 = 4 := by decide +kernel
set_option maxHeartbeats 4000000 in
set_option maxRecDepth 100000 in
theorem whole_of {p : Program} {e : Env} {s : State} {m : MethodId} {below : List Frame} {meth : Method} {c : Code} (l : Launch) {b L : Nat} {xs : Nat → Int32} (C0 : lw_At p s m meth c b L xs) {d : Nat} {σ' : Mem} (hrun : EC d 276 [.ref 2000000] (0, 0, extc L xs) = some (some (.int 1), σ')) (hd : d ≤ 1000) (hc1 : σ'.1 ≤ 600000) (hc2 : σ'.2.1 ≤ 7302250) :
    W p l e room_1 s m #[Value.ref b] below meth c s.heap [] 0 0 (lw_Z below #[Value.ref b] s) (entryFrame m ([Value.ref b] : List Value).toArray 4) := by
  obtain ⟨hx, hb, hr, hml, hown, hts, hX, hbl, hlocks, hgv⟩ := C0
  have hs := flat_of_before _ hgv
  have hAo : ∀ a : Nat, a < s.heap.size → ¬ (fun q : Nat => s.heap.size ≤ q) a := fun a h => Nat.not_le.mpr h
  have hk : ∀ k : Nat, ∃ q : ClassId × (Nat → Nat), k < 10 → u_Kn s (cD k).1 (cD k).2.1 (cD k).2.2 q.1 q.2 := by
    intro k
    by_cases hk : k < 10
    · have h1 := ckI k hk
      obtain ⟨g1, g2, -⟩ := c_ck k hk
      rw [g1, ← g2] at h1
      obtain ⟨c0, iS, hKn⟩ := u_known (C := (cD k).1) (T := (cD k).2.1) (N := (cD k).2.2) (n := (cD k).2.2) hts (lyT k hk) (hts _ (List.mem_of_getElem? h1.1))
      exact ⟨(c0, iS), fun _ => hKn⟩
    · exact ⟨(0, fun _ => 0), fun h => absurd h hk⟩
  obtain ⟨dK, hdK⟩ := Classical.axiomOfChoice hk
  have ha : ∀ t : Nat, ∃ cA : ClassId, t < 6 → ArrOfT s cA (tyFt t) ∧ va_RA s cA (tyFt t) := by
    intro t
    by_cases ht : t < 4
    · obtain ⟨cA, kA, comp, h1, h2, h3⟩ := Cond.arrayClass_spec (hts _ (arT t ht))
      refine ⟨cA, fun _ => ⟨fun n z => ⟨fun k h => (by cases h), kA, h2, comp, h3⟩, ?_⟩⟩
      match t, ht, h1 with
      | 0, _, h1 => exact h1
      | 1, _, h1 => exact h1
      | 2, _, h1 => exact h1
      | 3, _, h1 => exact h1
      | t + 4, ht, _ => exact absurd ht (by omega)
    · by_cases h4 : t = 4
      · subst h4
        obtain ⟨comp, cA, kA, h1, h2, h3, h4, h5⟩ := Cond.arrayOver_spec (hts _ aow5)
        exact ⟨cA, fun _ => ⟨fun n z => ⟨fun k h => (by cases h), kA, h3, comp, h4⟩, ⟨kA, comp, h3, h4, h1, h5⟩⟩⟩
      · by_cases h5 : t = 5
        · subst h5
          obtain ⟨comp, cA, kA, h1, h2, h3, h4, h5⟩ := Cond.arrayOver_spec (hts _ aow1)
          exact ⟨cA, fun _ => ⟨fun n z => ⟨fun k h => (by cases h), kA, h3, comp, h4⟩, ⟨kA, comp, h3, h4, h1, h5⟩⟩⟩
        · exact ⟨0, fun h => by omega⟩
  obtain ⟨dA, hdA⟩ := Classical.axiomOfChoice ha
  obtain ⟨adK, adV, hE, hEv⟩ := vk_Sof (N := 25) (tm := fun i => Term.string RX6 (strI.getD i 0)) (len := txLen) (byt := txts) (A := fun q : Nat => s.heap.size ≤ q) (fun i hi => by have := (tx_len i hi).2.2; omega) (fun i hi => hs _ (stT1 i hi)) (fun i hi => hs _ (stT2 i hi)) (fun i hi => hs _ (stT3 i hi)) (fun i hi => hs _ (stT4 i hi)) (fun i hi j hj => hs _ (stT5 i hi j hj)) (fun i j hi hj hne => (stT6 i hi j hj hne).elim (fun z => Or.inl (hs _ z)) (fun z => Or.inr (hs _ z))) hAo
  have hKK : va_K (fun k => (dK k).1, fun k => (dK k).2) classes (tysF (s.heap.size, b, adK, dA)) s := by
    refine ⟨fun k q hq => ?_, fun k q hq => ?_⟩
    · have hk10 : k < 10 := (List.getElem?_eq_some_iff.mp hq).1
      rw [c_at k hk10] at hq
      cases hq
      exact hdK k hk10
    · have hk6 : k < 6 := (List.getElem?_eq_some_iff.mp hq).1
      match k, hk6, hq with
      | 0, h, hq => cases hq; exact hdA 0 h
      | 1, h, hq => cases hq; exact hdA 1 h
      | 2, h, hq => cases hq; exact hdA 2 h
      | 3, h, hq => cases hq; exact hdA 3 h
      | 4, h, hq => cases hq; exact hdA 4 h
      | 5, h, hq => cases hq; exact hdA 5 h
      | k + 6, h, _ => exact absurd h (by omega)
  have hXX : XX (s.heap.size, b, adK, dA) (fun k => (dK k).1, fun k => (dK k).2) L xs adV s := by
    refine ⟨hKK, fun w hw => ?_, hX, hbl, hE, fun j hj => vk_R.of (hts _ (List.mem_of_getElem? (ckS j hj))) (hEv j hj), va_Zof (hts _ zlT.1) (hts _ zlT.2.2.1) (va_eqi (hs _ zqT.1)) hAo, va_AO.of (hts _ aow5), va_AO.of (hts _ aow1), va_Zqof (hts _ zlT.2.1) (hts _ zlT.2.2.2) (hs _ zqT.2) hAo⟩
    obtain ⟨h1, h2⟩ := List.mem_filter.mp hw
    have h3 := hts w h1
    cases w <;> first | (simp [isNest] at h2; done) | exact va_Nw.of rfl h3
  have hC : Ctx (s.heap.size, b, adK, dA) (fun k => (dK k).1, fun k => (dK k).2) L xs adV p s m #[Value.ref b] meth c 276 := ⟨hx, hb, by rw [hml, law_k.2.2], by rw [law_k.2.1]; exact hown, hr, hlocks, fun h => (by rw [law_k.1] at h; cases h), fun w hw => hts w (List.mem_filter.mp hw).1, hXX⟩
  have hA : AtQ (s.heap.size, b, adK, dA) (fun k => (dK k).1, fun k => (dK k).2) L xs s (0, 0, extc L xs) s.heap [] := ⟨fun k q h => by simp [wd] at h, va_S.rf, Nat.zero_le _, fun a _ => rfl, fun a q h => absurd h (Nat.not_lt_zero a)⟩
  have hl := lv_entry ([.ref b]) (n := 4) (Nat.le_of_ble_eq_true rfl)
  rw [lg_entry_eq]
  generalize (lg_sl ([.ref b]) ++ List.replicate (4 - (lg_sl ([.ref b])).length) Slot.unset).toArray = ls at hl ⊢
  obtain ⟨n, hn⟩ := Ev_iff.mp (show Ev d 276 0 (lv_args 0 [.ref 2000000]) [] (0, 0, extc L xs) = some (some (.int 1), σ') from hrun)
  have hls : lv_has ls (mxL 276) ((lv_args 0 [.ref 2000000]).map (cvl (s.heap.size, b, adK, dA))) := by
    rw [law_k.2.2]
    exact hl
  refine snd (s.heap.size, b, adK, dA) (fun k => (dK k).1, fun k => (dK k).2) L xs adV l n d 276 0 _ [] _ _ σ' hn (by omega) (by omega) p e room_1 s m #[Value.ref b] below meth c s.heap [] 0 0 _ ls 0 hC hA hls rfl rfl (by show σ'.1 ≤ 600000 + 0; omega) (by show 0 + σ'.2.1 ≤ 7302250 + 0; omega) (by show d + 4 ≤ 2048; omega) (by show 60 * (d + 4) ≤ 84000; omega) ?_
  intro H1 locs1 cells1 slots1 pc1 ls1 hA1 g1 g2 hret
  refine va_forget (fun q hq => hA1.2.1.2.2 q hq) (W.widen (k := 600000) (n := 7302250) (by omega) ?_ (lw_ret hx hb hr hlocks hret.1))
  have g3 : slots1 + 0 = 0 + σ'.2.1 := g2
  omega
