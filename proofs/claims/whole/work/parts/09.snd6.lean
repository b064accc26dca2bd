set_option maxHeartbeats 40000000 in
set_option maxRecDepth 20000 in
theorem snd_step (G : GP) (D : va_G) (L : Nat) (xs : Nat → Int32) (adV : Nat → Nat) (l : Launch) (n d m : Nat) (hm : m < 277) (r : Option Value) (σ' : Mem) (hbig : σ'.1 ≤ 1000000)
    (ih : ∀ (d m pc : Nat) (ls : Ls) (st : List Value) (σ : Mem) (r : Option Value) (σ' : Mem), ev n d m pc ls st σ = some (r, σ') → m < 277 → σ'.1 ≤ 1000000 → Runs G D L xs adV l d m pc ls st σ r σ')
    (hmet : ∀ (d m : Nat) (av : List Value) (σ : Mem) (r : Option Value) (σ' : Mem), ev n d m 0 (lv_args 0 av) [] σ = some (r, σ') → m < 274 → σ'.1 ≤ 1000000 → wfM L xs σ → (lg_sl (av.map (cv G))).length ≤ mxL m → MetS G D L xs adV l d m av σ r σ' ∧ wfM L xs σ')
    (pc : Nat) (ln : Nat) (ns : List Nat) (ks : List Int32) (js : List Int64) (ins : Instr) (ls : Ls) (st : List Value) (σ : Mem) (ok : okb m (pc, ins, ln, ns, ks, js) = true)
    (h : stepQ (kcE n d) (fun pc' ls' st' σ' => ev n d m pc' ls' st' σ') (rks.getD m 99) (pc, ins, ln, ns, ks, js) ls st σ = some (r, σ')) : Runs G D L xs adV l d m pc ls st σ r σ' := by
  intro p e R s mi args below meth c H locs cells slots Q lsA n0 C hA hls h0 hc hRc hRs hRf hRl hret
  have hx := C.1
  have hb := C.2.1
  have hown := C.2.2.2.1
  have HN : ∀ (pc' : Nat) (ls' : Ls) (st' : List Value) (τ : Mem) (H1 : Heap) (locs1 : List Loc) (cells1 slots1 : Nat) (lsA' : Array Slot), ev n d m pc' ls' st' τ = some (r, σ') → AtQ G D L xs s τ H1 locs1 → lv_has lsA' (mxL m) (ls'.map (cvl G)) → cells1 + n0 = τ.1 → slots1 + σ.2.1 = slots + τ.2.1 → W p l e R s mi args below meth c H1 locs1 cells1 slots1 Q (F0 mi pc' lsA' (st'.map (cv G))) := by
    intro pc' ls' st' τ H1 locs1 cells1 slots1 lsA' g1 g2 g3 g4 g5
    exact ih d m pc' ls' st' τ r σ' g1 hm hbig p e R s mi args below meth c H1 locs1 cells1 slots1 Q lsA' n0 C g2 g3 h0 g4 hRc (by omega) hRf hRl (fun H2 locs2 cells2 slots2 pc2 ls2 k1 k2 k3 k4 => hret H2 locs2 cells2 slots2 pc2 ls2 k1 k2 (by omega) k4)
  have HS : ∀ (pc' : Nat) (ls' : Ls) (st' : List Value), ev n d m pc' ls' st' σ = some (r, σ') → lv_has lsA (mxL m) (ls'.map (cvl G)) → W p l e R s mi args below meth c H locs cells slots Q (F0 mi pc' lsA (st'.map (cv G))) := fun pc' ls' st' g1 g3 => HN pc' ls' st' σ H locs cells slots lsA g1 hA g3 hc rfl
  have HM : ∀ (pc' : Nat) (ls' : Ls) (st' : List Value) (τ : Mem) (H1 : Heap) (locs1 : List Loc), ev n d m pc' ls' st' τ = some (r, σ') → AtQ G D L xs s τ H1 locs1 → lv_has lsA (mxL m) (ls'.map (cvl G)) → τ.1 = σ.1 → τ.2.1 = σ.2.1 → W p l e R s mi args below meth c H1 locs1 cells slots Q (F0 mi pc' lsA (st'.map (cv G))) := fun pc' ls' st' τ H1 locs1 g1 g2 g3 g4 g5 => HN pc' ls' st' τ H1 locs1 cells slots lsA g1 g2 g3 (by omega) (by omega)
  unfold okb at ok
  rw [Bool.and_eq_true] at ok
  obtain ⟨dg0, ok⟩ := ok
  have dg := of_decide_eq_true dg0
  clear dg0
  dsimp only at dg ok
  cases ins with

  | iload_n k =>
    simp only [nsq, lnq, Bool.and_eq_true, beq_iff_eq, Nat.blt_eq] at ok
    obtain ⟨e1, e2⟩ := ok
    subst e1; subst e2
    dsimp only [stepQ] at h
    split at h
    · rename_i x hk
      exact lv_iload_n hx hb dg rfl (lv_lk hls hk) (HS _ _ _ h hls)
    · cases h
  | iload i =>
    simp only [nsq, lnq, Bool.and_eq_true, beq_iff_eq, Nat.blt_eq] at ok
    obtain ⟨e1, e2⟩ := ok
    subst e1; subst e2
    dsimp only [stepQ] at h
    split at h
    · rename_i x hk
      exact lv_iload hx hb dg (lv_lk hls hk) (HS _ _ _ h hls)
    · cases h
  | lload_n k =>
    simp only [nsq, lnq, Bool.and_eq_true, beq_iff_eq, Nat.blt_eq] at ok
    obtain ⟨e1, e2⟩ := ok
    subst e1; subst e2
    dsimp only [stepQ] at h
    split at h
    · rename_i x hk
      exact lv_lload_n hx hb dg rfl (lv_lk hls hk) (HS _ _ _ h hls)
    · cases h
  | lload i =>
    simp only [nsq, lnq, Bool.and_eq_true, beq_iff_eq, Nat.blt_eq] at ok
    obtain ⟨e1, e2⟩ := ok
    subst e1; subst e2
    dsimp only [stepQ] at h
    split at h
    · rename_i x hk
      exact lv_lload hx hb dg (lv_lk hls hk) (HS _ _ _ h hls)
    · cases h
  | aload_n k =>
    simp only [nsq, lnq, Bool.and_eq_true, beq_iff_eq, Nat.blt_eq] at ok
    obtain ⟨e1, e2⟩ := ok
    subst e1; subst e2
    dsimp only [stepQ] at h
    split at h
    · rename_i x hk
      exact lv_aload_n hx hb dg rfl (lv_lk hls hk) (HS _ _ _ h hls)
    · rename_i hk
      exact lv_aload_nN hx hb dg rfl (lv_lk hls hk) (HS _ _ _ h hls)
    · cases h
  | aload i =>
    simp only [nsq, lnq, Bool.and_eq_true, beq_iff_eq, Nat.blt_eq] at ok
    obtain ⟨e1, e2⟩ := ok
    subst e1; subst e2
    dsimp only [stepQ] at h
    split at h
    · rename_i x hk
      exact lv_aload hx hb dg (lv_lk hls hk) (HS _ _ _ h hls)
    · rename_i hk
      exact lv_aloadN hx hb dg (lv_lk hls hk) (HS _ _ _ h hls)
    · cases h
  | istore_n k =>
    simp only [nsq, lnq, Bool.and_eq_true, beq_iff_eq, Nat.blt_eq] at ok
    obtain ⟨⟨e1, e2⟩, e3⟩ := ok
    subst e1; subst e2
    dsimp only [stepQ] at h
    split at h
    · rename_i x st
      exact lv_istore_n hx hb dg rfl hls e3 (stl1_map G _ (.int x) ls) (fun lsA' hl' => HN _ _ _ _ _ _ _ _ _ h hA hl' hc rfl)
    · cases h
  | istore i =>
    simp only [nsq, lnq, Bool.and_eq_true, beq_iff_eq, Nat.blt_eq] at ok
    obtain ⟨⟨e1, e2⟩, e3⟩ := ok
    subst e1; subst e2
    dsimp only [stepQ] at h
    split at h
    · rename_i x st
      exact lv_istore hx hb dg hls e3 (stl1_map G _ (.int x) ls) (fun lsA' hl' => HN _ _ _ _ _ _ _ _ _ h hA hl' hc rfl)
    · cases h
  | lstore_n k =>
    simp only [nsq, lnq, Bool.and_eq_true, beq_iff_eq, Nat.blt_eq] at ok
    obtain ⟨⟨e1, e2⟩, e3⟩ := ok
    subst e1; subst e2
    dsimp only [stepQ] at h
    split at h
    · rename_i x st
      exact lv_lstore_n hx hb dg rfl hls e3 (stl2_map G _ (.long x) ls) (fun lsA' hl' => HN _ _ _ _ _ _ _ _ _ h hA hl' hc rfl)
    · cases h
  | lstore i =>
    simp only [nsq, lnq, Bool.and_eq_true, beq_iff_eq, Nat.blt_eq] at ok
    obtain ⟨⟨e1, e2⟩, e3⟩ := ok
    subst e1; subst e2
    dsimp only [stepQ] at h
    split at h
    · rename_i x st
      exact lv_lstore hx hb dg hls e3 (stl2_map G _ (.long x) ls) (fun lsA' hl' => HN _ _ _ _ _ _ _ _ _ h hA hl' hc rfl)
    · cases h
  | astore_n k =>
    simp only [nsq, lnq, Bool.and_eq_true, beq_iff_eq, Nat.blt_eq] at ok
    obtain ⟨⟨e1, e2⟩, e3⟩ := ok
    subst e1; subst e2
    dsimp only [stepQ] at h
    split at h
    · rename_i x st
      exact lv_astore_n hx hb dg rfl hls e3 (stl1_map G _ (.ref x) ls) (fun lsA' hl' => HN _ _ _ _ _ _ _ _ _ h hA hl' hc rfl)
    · rename_i st
      exact lv_astore_nN hx hb dg rfl hls e3 (stl1_map G _ .null ls) (fun lsA' hl' => HN _ _ _ _ _ _ _ _ _ h hA hl' hc rfl)
    · cases h
  | astore i =>
    simp only [nsq, lnq, Bool.and_eq_true, beq_iff_eq, Nat.blt_eq] at ok
    obtain ⟨⟨e1, e2⟩, e3⟩ := ok
    subst e1; subst e2
    dsimp only [stepQ] at h
    split at h
    · rename_i x st
      exact lv_astore hx hb dg hls e3 (stl1_map G _ (.ref x) ls) (fun lsA' hl' => HN _ _ _ _ _ _ _ _ _ h hA hl' hc rfl)
    · rename_i st
      exact lv_astoreN hx hb dg hls e3 (stl1_map G _ .null ls) (fun lsA' hl' => HN _ _ _ _ _ _ _ _ _ h hA hl' hc rfl)
    · cases h
  | iinc i q =>
    simp only [nsq, lnq, Bool.and_eq_true, beq_iff_eq, Nat.blt_eq] at ok
    obtain ⟨⟨⟨e1, e2⟩, e3⟩, e4⟩ := ok
    subst e1; subst e2; subst e4
    dsimp only [stepQ] at h
    split at h
    · rename_i x hk
      obtain ⟨k, hk'⟩ := lk_at (G := G) hk
      exact lv_iinc hx hb dg hls hk' rfl e3 (stl1_map G _ (.int (x + Int32.ofInt q)) ls) (fun lsA' hl' => HN _ _ _ _ _ _ _ _ _ h hA hl' hc rfl)
    · cases h
  | iconst q =>
    simp only [nsq, lnq, Bool.and_eq_true, beq_iff_eq, Nat.blt_eq] at ok
    obtain ⟨e1, e2⟩ := ok
    subst e1; subst e2
    dsimp only [stepQ] at h
    exact lv_iconst hx hb dg rfl (HS _ _ _ h hls)
  | bipush q =>
    simp only [nsq, lnq, Bool.and_eq_true, beq_iff_eq, Nat.blt_eq] at ok
    obtain ⟨e1, e2⟩ := ok
    subst e1; subst e2
    dsimp only [stepQ] at h
    exact lv_bipush hx hb dg rfl (HS _ _ _ h hls)
  | sipush q =>
    simp only [nsq, lnq, Bool.and_eq_true, beq_iff_eq, Nat.blt_eq] at ok
    obtain ⟨e1, e2⟩ := ok
    subst e1; subst e2
    dsimp only [stepQ] at h
    exact lv_sipush hx hb dg rfl (HS _ _ _ h hls)
  | ldc i =>
    rw [Bool.and_eq_true] at ok
    obtain ⟨e1, ok⟩ := ok
    simp only [lnq, beq_iff_eq] at e1
    subst e1
    dsimp only [stepQ] at h
    revert h
    revert ok
    match ns with
    | [] =>
      intro ok h
      try dsimp only at ok h
      obtain ⟨v, hv⟩ := ki_word C hm ok
      exact lv_ldc hx hb hown hv.1 dg (by rw [← hv.2]; exact HS _ _ _ h hls)
    | [k] =>
      intro ok h
      try dsimp only at ok h
      simp only [Bool.and_eq_true, beq_iff_eq, Nat.ble_eq, Nat.blt_eq] at ok
      obtain ⟨⟨⟨k1, k2⟩, k3⟩, k4⟩ := ok
      have hr := C.2.2.2.2.2.2.2.2.2.2.2.2.2.1 (k - 1000000) (by omega)
      rw [k4] at hr
      have ho : own m = RX6 := by rw [ckO m hm, k1]; rfl
      have had : adr G k = G.2.2.1 (k - 1000000) := by
        unfold adr
        rw [if_neg (by omega), if_neg (by omega)]
      refine va_ldcS hx hb (own := RX6) (by rw [← ho]; exact hown) hr dg ?_
      rw [← had]
      exact HS _ _ _ h hls
    | _ :: _ :: _ => intro ok h; cases ok
  | ldc_w i =>
    rw [Bool.and_eq_true] at ok
    obtain ⟨e1, ok⟩ := ok
    simp only [lnq, beq_iff_eq] at e1
    subst e1
    dsimp only [stepQ] at h
    obtain ⟨v, hv⟩ := ki_word C hm ok
    exact lv_ldcw hx hb hown hv.1 dg (by rw [← hv.2]; exact HS _ _ _ h hls)
  | lconst q =>
    simp only [lnq, Bool.and_eq_true, beq_iff_eq] at ok
    obtain ⟨e1, e2⟩ := ok
    subst e1; subst e2
    dsimp only [stepQ] at h
    exact lv_lconst hx hb dg rfl (HS _ _ _ h hls)
  | ldc2_w i =>
    rw [Bool.and_eq_true] at ok
    obtain ⟨e1, ok⟩ := ok
    simp only [lnq, beq_iff_eq] at e1
    subst e1
    dsimp only [stepQ] at h
    obtain ⟨v, hv⟩ := kj_word C hm ok
    exact lv_ldc2 hx hb hown hv.1 dg (by rw [← hv.2]; exact HS _ _ _ h hls)
  | aconst_null =>
    simp only [lnq, beq_iff_eq] at ok
    subst ok
    dsimp only [stepQ] at h
    exact lv_null hx hb dg (HS _ _ _ h hls)
  | iadd =>
    simp only [lnq, beq_iff_eq] at ok
    subst ok
    dsimp only [stepQ] at h
    split at h
    · rename_i y x st
      exact lv_iadd hx hb dg (HS _ _ _ h hls)
    · cases h
  | isub =>
    simp only [lnq, beq_iff_eq] at ok
    subst ok
    dsimp only [stepQ] at h
    split at h
    · rename_i y x st
      exact lv_isub hx hb dg (HS _ _ _ h hls)
    · cases h
  | imul =>
    simp only [lnq, beq_iff_eq] at ok
    subst ok
    dsimp only [stepQ] at h
    split at h
    · rename_i y x st
      exact lv_imul hx hb dg (HS _ _ _ h hls)
    · cases h
  | iand =>
    simp only [lnq, beq_iff_eq] at ok
    subst ok
    dsimp only [stepQ] at h
    split at h
    · rename_i y x st
      exact lv_iand hx hb dg (HS _ _ _ h hls)
    · cases h
  | ior =>
    simp only [lnq, beq_iff_eq] at ok
    subst ok
    dsimp only [stepQ] at h
    split at h
    · rename_i y x st
      exact lv_ior hx hb dg (HS _ _ _ h hls)
    · cases h
  | ixor =>
    simp only [lnq, beq_iff_eq] at ok
    subst ok
    dsimp only [stepQ] at h
    split at h
    · rename_i y x st
      exact lv_ixor hx hb dg (HS _ _ _ h hls)
    · cases h
  | ishl =>
    simp only [lnq, beq_iff_eq] at ok
    subst ok
    dsimp only [stepQ] at h
    split at h
    · rename_i y x st
      exact lv_ishl hx hb dg (HS _ _ _ h hls)
    · cases h
  | ishr =>
    simp only [lnq, beq_iff_eq] at ok
    subst ok
    dsimp only [stepQ] at h
    split at h
    · rename_i y x st
      exact lv_ishr hx hb dg (HS _ _ _ h hls)
    · cases h
  | ladd =>
    simp only [lnq, beq_iff_eq] at ok
    subst ok
    dsimp only [stepQ] at h
    split at h
    · rename_i y x st
      exact lv_ladd hx hb dg (HS _ _ _ h hls)
    · cases h
  | lsub =>
    simp only [lnq, beq_iff_eq] at ok
    subst ok
    dsimp only [stepQ] at h
    split at h
    · rename_i y x st
      exact lv_lsub hx hb dg (HS _ _ _ h hls)
    · cases h
  | lmul =>
    simp only [lnq, beq_iff_eq] at ok
    subst ok
    dsimp only [stepQ] at h
    split at h
    · rename_i y x st
      exact lv_lmul hx hb dg (HS _ _ _ h hls)
    · cases h
  | iushr =>
    simp only [lnq, beq_iff_eq] at ok
    subst ok
    dsimp only [stepQ] at h
    split at h
    · rename_i y x st
      exact lv_iushr hx hb dg rfl (HS _ _ _ h hls)
    · cases h
  | lcmp =>
    simp only [lnq, beq_iff_eq] at ok
    subst ok
    dsimp only [stepQ] at h
    split at h
    · rename_i y x st
      exact W.lcmp hx hb dg (HS _ _ _ h hls)
    · cases h
  | idiv =>
    simp only [lnq, beq_iff_eq] at ok
    subst ok
    dsimp only [stepQ] at h
    split at h
    · rename_i y x st
      split at h
      · cases h
      · rename_i hne
        exact lv_idiv hx hb dg hne (HS _ _ _ h hls)
    · cases h
  | irem =>
    simp only [lnq, beq_iff_eq] at ok
    subst ok
    dsimp only [stepQ] at h
    split at h
    · rename_i y x st
      split at h
      · cases h
      · rename_i hne
        exact lv_irem hx hb dg hne (HS _ _ _ h hls)
    · cases h
  | ldiv =>
    simp only [lnq, beq_iff_eq] at ok
    subst ok
    dsimp only [stepQ] at h
    split at h
    · rename_i y x st
      split at h
      · cases h
      · rename_i hne
        exact lv_ldiv hx hb dg hne (HS _ _ _ h hls)
    · cases h
  | lrem =>
    simp only [lnq, beq_iff_eq] at ok
    subst ok
    dsimp only [stepQ] at h
    split at h
    · rename_i y x st
      split at h
      · cases h
      · rename_i hne
        exact lv_lrem hx hb dg hne (HS _ _ _ h hls)
    · cases h
  | ineg =>
    simp only [lnq, beq_iff_eq] at ok
    subst ok
    dsimp only [stepQ] at h
    split at h
    · rename_i x st
      exact lv_ineg hx hb dg (HS _ _ _ h hls)
    · cases h
  | i2l =>
    simp only [lnq, beq_iff_eq] at ok
    subst ok
    dsimp only [stepQ] at h
    split at h
    · rename_i x st
      exact lv_i2l hx hb dg rfl (HS _ _ _ h hls)
    · cases h
  | l2i =>
    simp only [lnq, beq_iff_eq] at ok
    subst ok
    dsimp only [stepQ] at h
    split at h
    · rename_i x st
      exact lv_l2i hx hb dg rfl (HS _ _ _ h hls)
    · cases h
  | i2b =>
    simp only [lnq, beq_iff_eq] at ok
    subst ok
    dsimp only [stepQ] at h
    split at h
    · rename_i x st
      exact lv_i2b hx hb dg rfl (HS _ _ _ h hls)
    · cases h
  | dup =>
    simp only [lnq, beq_iff_eq] at ok
    subst ok
    dsimp only [stepQ] at h
    split at h
    · rename_i x st
      exact lv_dup hx hb dg rfl (HS _ _ _ h hls)
    · rename_i x st
      exact lv_dup hx hb dg rfl (HS _ _ _ h hls)
    · cases h
  | dup_x1 =>
    simp only [lnq, beq_iff_eq] at ok
    subst ok
    dsimp only [stepQ] at h
    split at h
    · rename_i y x st
      exact lv_dup_x1 hx hb dg rfl rfl (HS _ _ _ h hls)
    · cases h
  | dup2 =>
    simp only [lnq, beq_iff_eq] at ok
    subst ok
    dsimp only [stepQ] at h
    split at h
    · rename_i y x st
      exact lv_dup2_11 hx hb dg rfl rfl (HS _ _ _ h hls)
    · cases h
  | pop =>
    simp only [lnq, beq_iff_eq] at ok
    subst ok
    dsimp only [stepQ] at h
    split at h
    · rename_i x st
      exact lv_pop hx hb dg rfl (HS _ _ _ h hls)
    · cases h
  | goto off =>
    rw [Bool.and_eq_true] at ok
    obtain ⟨e1, ok⟩ := ok
    simp only [lnq, beq_iff_eq] at e1
    subst e1
    revert h
    revert ok
    match ns with
    | [] => intro ok h; cases ok
    | _ :: _ :: _ => intro ok h; cases ok
    | [t] =>
      intro ok h
      have ht := of_decide_eq_true ok
      dsimp only [stepQ] at h
      exact lv_goto hx hb dg ht (HS _ _ _ h hls)
  | ifnull off =>
    rw [Bool.and_eq_true] at ok
    obtain ⟨e1, ok⟩ := ok
    simp only [lnq, beq_iff_eq] at e1
    subst e1
    revert h
    revert ok
    match ns with
    | [] => intro ok h; cases ok
    | _ :: _ :: _ => intro ok h; cases ok
    | [t] =>
      intro ok h
      have ht := of_decide_eq_true ok
      dsimp only [stepQ] at h
      split at h
      · rename_i st
        exact lv_ifnullN hx hb dg ht (HS _ _ _ h hls)
      · rename_i x st
        exact lv_ifnull hx hb dg (HS _ _ _ h hls)
      · cases h
  | ifnonnull off =>
    rw [Bool.and_eq_true] at ok
    obtain ⟨e1, ok⟩ := ok
    simp only [lnq, beq_iff_eq] at e1
    subst e1
    revert h
    revert ok
    match ns with
    | [] => intro ok h; cases ok
    | _ :: _ :: _ => intro ok h; cases ok
    | [t] =>
      intro ok h
      have ht := of_decide_eq_true ok
      dsimp only [stepQ] at h
      split at h
      · rename_i st
        exact lv_ifnonnullN hx hb dg (HS _ _ _ h hls)
      · rename_i x st
        exact lv_ifnonnull hx hb dg ht (HS _ _ _ h hls)
      · cases h
  | ifCond cd off =>
    rw [Bool.and_eq_true] at ok
    obtain ⟨e1, ok⟩ := ok
    simp only [lnq, beq_iff_eq] at e1
    subst e1
    revert h
    revert ok
    match ns with
    | [] => intro ok h; cases ok
    | _ :: _ :: _ => intro ok h; cases ok
    | [t] =>
      intro ok h
      have ht := of_decide_eq_true ok
      dsimp only [stepQ] at h
      cases cd with
      | eq =>
        try dsimp only at h
        split at h
        · rename_i x st
          exact lv_if_eq hx hb dg ht (fun q => HS _ _ _ (by rw [if_pos q] at h; exact h) hls) (fun q => HS _ _ _ (by rw [if_neg q] at h; exact h) hls)
        · cases h
      | ne =>
        try dsimp only at h
        split at h
        · rename_i x st
          exact lv_if_ne hx hb dg ht (fun q => HS _ _ _ (by rw [if_neg q] at h; exact h) hls) (fun q => HS _ _ _ (by rw [if_pos q] at h; exact h) hls)
        · cases h
      | lt =>
        try dsimp only at h
        split at h
        · rename_i x st
          exact lv_if_lt hx hb dg ht (fun q => HS _ _ _ (by rw [if_pos q] at h; exact h) hls) (fun q => HS _ _ _ (by rw [if_neg q] at h; exact h) hls)
        · cases h
      | ge =>
        try dsimp only at h
        split at h
        · rename_i x st
          exact lv_if_ge hx hb dg ht (fun q => HS _ _ _ (by rw [if_pos q] at h; exact h) hls) (fun q => HS _ _ _ (by rw [if_neg q] at h; exact h) hls)
        · cases h
      | gt =>
        try dsimp only at h
        split at h
        · rename_i x st
          exact lv_if_gt hx hb dg ht (fun q => HS _ _ _ (by rw [if_pos q] at h; exact h) hls) (fun q => HS _ _ _ (by rw [if_neg q] at h; exact h) hls)
        · cases h
      | le =>
        try dsimp only at h
        split at h
        · rename_i x st
          exact lv_if_le hx hb dg ht (fun q => HS _ _ _ (by rw [if_pos q] at h; exact h) hls) (fun q => HS _ _ _ (by rw [if_neg q] at h; exact h) hls)
        · cases h
  | if_icmp cd off =>
    rw [Bool.and_eq_true] at ok
    obtain ⟨e1, ok⟩ := ok
    simp only [lnq, beq_iff_eq] at e1
    subst e1
    revert h
    revert ok
    match ns with
    | [] => intro ok h; cases ok
    | _ :: _ :: _ => intro ok h; cases ok
    | [t] =>
      intro ok h
      have ht := of_decide_eq_true ok
      dsimp only [stepQ] at h
      cases cd with
      | eq =>
        try dsimp only at h
        split at h
        · rename_i y x st
          exact lv_icmp_eq hx hb dg ht (fun q => HS _ _ _ (by rw [if_pos q] at h; exact h) hls) (fun q => HS _ _ _ (by rw [if_neg q] at h; exact h) hls)
        · cases h
      | ne =>
        try dsimp only at h
        split at h
        · rename_i y x st
          exact lv_icmp_ne hx hb dg ht (fun q => HS _ _ _ (by rw [if_neg q] at h; exact h) hls) (fun q => HS _ _ _ (by rw [if_pos q] at h; exact h) hls)
        · cases h
      | lt =>
        try dsimp only at h
        split at h
        · rename_i y x st
          exact lv_icmp_lt hx hb dg ht (fun q => HS _ _ _ (by rw [if_pos q] at h; exact h) hls) (fun q => HS _ _ _ (by rw [if_neg q] at h; exact h) hls)
        · cases h
      | ge =>
        try dsimp only at h
        split at h
        · rename_i y x st
          exact lv_icmp_ge hx hb dg ht (fun q => HS _ _ _ (by rw [if_pos q] at h; exact h) hls) (fun q => HS _ _ _ (by rw [if_neg q] at h; exact h) hls)
        · cases h
      | gt =>
        try dsimp only at h
        split at h
        · rename_i y x st
          exact lv_icmp_gt hx hb dg ht (fun q => HS _ _ _ (by rw [if_pos q] at h; exact h) hls) (fun q => HS _ _ _ (by rw [if_neg q] at h; exact h) hls)
        · cases h
      | le =>
        try dsimp only at h
        split at h
        · rename_i y x st
          exact lv_icmp_le hx hb dg ht (fun q => HS _ _ _ (by rw [if_pos q] at h; exact h) hls) (fun q => HS _ _ _ (by rw [if_neg q] at h; exact h) hls)
        · cases h
  | tableswitch dd lo hi offs =>
    simp only [Bool.and_eq_true, decide_eq_true_eq, beq_iff_eq] at ok
    obtain ⟨⟨⟨⟨k1, k2⟩, k3⟩, k4⟩, k5⟩ := ok
    subst k4
    revert h
    revert k5
    match ns with
    | [] => intro k5 h; cases k5
    | t :: ts =>
      intro k5 h
      dsimp only at k5
      simp only [Bool.and_eq_true, decide_eq_true_eq] at k5
      dsimp only [stepQ] at h
      split at h
      · rename_i x st
        exact r_tsw C dg k1 k2 k3 k5.1 k5.2 h (fun t' g => HS _ _ _ g hls)
      · cases h
  | getfield i =>
    rw [Bool.and_eq_true] at ok
    obtain ⟨e1, ok⟩ := ok
    simp only [lnq, beq_iff_eq] at e1
    subst e1
    dsimp only [stepQ] at h
    split at h
    · rename_i a st
      revert h
      revert ok
      match ns with
      | [] => intro ok h; cases ok
      | [_] => intro ok h; cases ok
      | [_, _] => intro ok h; cases ok
      | _ :: _ :: _ :: _ :: _ => intro ok h; cases ok
      | [ci, k, t] =>
        intro ok h
        try dsimp only at ok
        simp only [Bool.and_eq_true, Nat.blt_eq] at ok
        obtain ⟨⟨k1, k2⟩, k3⟩ := ok
        have hf := fl_any k1
        rw [(c_ck ci k2).1] at k3
        revert h
        match t with
        | 2 =>
          intro h
          try dsimp only at h
          obtain ⟨v, hv, h⟩ := bO_some h
          exact r_get C hm hA hf k2 k3 (gR_gV hv) dg (HS _ _ _ h hls)
        | 3 =>
          intro h
          try dsimp only at h
          obtain ⟨q, hv, h⟩ := bO_some h
          cases q with
          | none => exact r_get C hm hA hf k2 k3 (gQ_gV hv) dg (HS _ _ _ h hls)
          | some v => exact r_get C hm hA hf k2 k3 (gQ_gV hv) dg (HS _ _ _ h hls)
        | 0 =>
          intro h
          try dsimp only at h
          obtain ⟨v, hv, h⟩ := bO_some h
          exact r_get C hm hA hf k2 k3 (gI_gV hv) dg (HS _ _ _ h hls)
        | 1 =>
          intro h
          try dsimp only at h
          obtain ⟨v, hv, h⟩ := bO_some h
          exact r_get C hm hA hf k2 k3 (gI_gV hv) dg (HS _ _ _ h hls)
        | t + 4 =>
          intro h
          try dsimp only at h
          obtain ⟨v, hv, h⟩ := bO_some h
          exact r_get C hm hA hf k2 k3 (gI_gV hv) dg (HS _ _ _ h hls)
    · cases h
  | putfield i =>
    rw [Bool.and_eq_true] at ok
    obtain ⟨e1, ok⟩ := ok
    simp only [lnq, beq_iff_eq] at e1
    subst e1
    dsimp only [stepQ] at h
    revert h
    revert ok
    match ns with
    | [] => intro ok h; cases ok
    | [_] => intro ok h; cases ok
    | [_, _] => intro ok h; cases ok
    | _ :: _ :: _ :: _ :: _ => intro ok h; cases ok
    | [ci, k, t] =>
      intro ok h
      try dsimp only at ok
      simp only [Bool.and_eq_true, Nat.blt_eq] at ok
      obtain ⟨⟨⟨k2, k3⟩, k5⟩, k1⟩ := ok
      have hf := fl_anyP k1
      rw [(c_ck ci k2).1] at k3
      revert k5
      revert h
      match t with
      | 0 =>
        intro h k5
        replace k5 : decide (tyOf ci k = some .int) = true := k5
        replace h : (match (generalizing := false) st with | .int v :: .ref a :: st => bO (pF σ ci a k (.int v)) (fun σ => ev n d m (pc + 3) ls st σ) | _ => none) = some (r, σ') := h
        split at h
        · rename_i v a st
          obtain ⟨τ, hv, h⟩ := bO_some h
          exact r_put C hm hA hf k2 k3 hv (of_decide_eq_true k5) rfl rfl dg (fun H1 locs1 hA' => HM _ _ _ _ _ _ h hA' hls (le_pFe hv).1 (le_pFe hv).2)
        · cases h
      | 1 =>
        intro h k5
        replace k5 : decide (tyOf ci k = some .boolean) = true := k5
        replace h : (match (generalizing := false) st with | .int v :: .ref a :: st => bif okZ v then bO (pF σ ci a k (.int v)) (fun σ => ev n d m (pc + 3) ls st σ) else none | _ => none) = some (r, σ') := h
        split at h
        · rename_i v a st
          cases ez : okZ v with
          | false => rw [ez] at h; cases h
          | true =>
            rw [ez] at h
            obtain ⟨τ, hv, h⟩ := bO_some h
            exact r_put C hm hA hf k2 k3 hv (of_decide_eq_true k5) (nar_Z ez).1 (nar_Z ez).2 dg (fun H1 locs1 hA' => HM _ _ _ _ _ _ h hA' hls (le_pFe hv).1 (le_pFe hv).2)
        · cases h
      | t + 2 =>
        intro h k5
        replace k5 : isRT (tyOf ci k) = true := k5
        replace h : (match (generalizing := false) st with | .ref v :: .ref a :: st => bO (pF σ ci a k (.ref v)) (fun σ => ev n d m (pc + 3) ls st σ) | _ => none) = some (r, σ') := h
        split at h
        · rename_i v a st
          obtain ⟨τ, hv, h⟩ := bO_some h
          obtain ⟨ty, ht, h7, h8⟩ := rt_ref (a := adr G v) k5
          exact r_put C hm hA hf k2 k3 hv ht h7 h8 dg (fun H1 locs1 hA' => HM _ _ _ _ _ _ h hA' hls (le_pFe hv).1 (le_pFe hv).2)
        · cases h
  | iaload =>
    simp only [lnq, beq_iff_eq] at ok
    subst ok
    dsimp only [stepQ] at h
    split at h
    · rename_i i a st
      obtain ⟨v, hv, h⟩ := bO_some h
      exact r_iald C hA hv dg (HS _ _ _ h hls)
    · cases h
  | baload =>
    simp only [lnq, beq_iff_eq] at ok
    subst ok
    dsimp only [stepQ] at h
    split at h
    · rename_i i a st
      obtain ⟨v, hv, h⟩ := bO_some h
      exact r_bald C hA hv dg (HS _ _ _ h hls)
    · cases h
  | laload =>
    simp only [lnq, beq_iff_eq] at ok
    subst ok
    dsimp only [stepQ] at h
    split at h
    · rename_i i a st
      obtain ⟨v, hv, h⟩ := bO_some h
      exact r_lald C hA hv dg (HS _ _ _ h hls)
    · cases h
  | aaload =>
    simp only [lnq, beq_iff_eq] at ok
    subst ok
    dsimp only [stepQ] at h
    split at h
    · rename_i i a st
      obtain ⟨q, hv, h⟩ := bO_some h
      cases q with
      | none => exact r_aald C hA hv dg (HS _ _ _ h hls)
      | some v => exact r_aald C hA hv dg (HS _ _ _ h hls)
    · cases h
  | iastore =>
    simp only [lnq, beq_iff_eq] at ok
    subst ok
    dsimp only [stepQ] at h
    split at h
    · rename_i x i a st
      obtain ⟨τ, hv, h⟩ := bO_some h
      exact r_iast C hA hv dg (fun H1 locs1 hA' => HM _ _ _ _ _ _ h hA' hls (le_sIe hv).1 (le_sIe hv).2)
    · cases h
  | bastore =>
    simp only [lnq, beq_iff_eq] at ok
    subst ok
    dsimp only [stepQ] at h
    split at h
    · rename_i x i a st
      obtain ⟨τ, hv, h⟩ := bO_some h
      exact r_bast C hA hv dg (fun H1 locs1 hA' => HM _ _ _ _ _ _ h hA' hls (le_sBe hv).1 (le_sBe hv).2)
    · cases h
  | lastore =>
    simp only [lnq, beq_iff_eq] at ok
    subst ok
    dsimp only [stepQ] at h
    split at h
    · rename_i x i a st
      obtain ⟨τ, hv, h⟩ := bO_some h
      exact r_last C hA hv dg (fun H1 locs1 hA' => HM _ _ _ _ _ _ h hA' hls (le_sLe hv).1 (le_sLe hv).2)
    · cases h
  | aastore =>
    simp only [lnq, beq_iff_eq] at ok
    subst ok
    dsimp only [stepQ] at h
    split at h
    · rename_i x i a st
      obtain ⟨τ, hv, h⟩ := bO_some h
      exact r_aast (x := some x) C hA hv dg (fun H1 locs1 hA' => HM _ _ _ _ _ _ h hA' hls (le_sQe hv).1 (le_sQe hv).2)
    · rename_i i a st
      obtain ⟨τ, hv, h⟩ := bO_some h
      exact r_aast (x := none) C hA hv dg (fun H1 locs1 hA' => HM _ _ _ _ _ _ h hA' hls (le_sQe hv).1 (le_sQe hv).2)
    · cases h
  | arraylength =>
    simp only [lnq, beq_iff_eq] at ok
    subst ok
    dsimp only [stepQ] at h
    split at h
    · rename_i a st
      obtain ⟨v, hv, h⟩ := bO_some h
      exact r_alen C hA hv dg (HS _ _ _ h hls)
    · cases h
  | newarray at_ =>
    simp only [nsq, lnq, Bool.and_eq_true, beq_iff_eq, Nat.blt_eq] at ok
    obtain ⟨⟨e1, e2⟩, e3⟩ := ok
    subst e1; subst e2
    dsimp only [stepQ] at h
    split at h
    · rename_i q st
      obtain ⟨z, hv, h⟩ := bO_some h
      have hv' := hv
      obtain ⟨-, -, rfl⟩ := newA_some hv'
      have hle := ev_le _ _ _ _ _ _ _ _ h
      have hle1 : σ.1 + 1 ≤ σ'.1 := hle.1
      have hle2 : σ.2.1 + q.toNatClampNeg ≤ σ'.2.1 := hle.2
      exact r_newa C hA h0 hc (by omega) e3 hv (by omega) (by omega) dg (fun H1 hA' => HN _ _ _ _ _ _ _ _ _ h hA' hls (by show _ = σ.1 + 1; omega) (by show _ = _ + (σ.2.1 + _); omega))
    · cases h
  | anewarray i =>
    rw [Bool.and_eq_true] at ok
    obtain ⟨e1, ok⟩ := ok
    simp only [lnq, beq_iff_eq] at e1
    subst e1
    dsimp only [stepQ] at h
    split at h
    · rename_i q st
      obtain ⟨z, hv, h⟩ := bO_some h
      have hv' := hv
      obtain ⟨-, -, rfl⟩ := newA_some hv'
      have hle := ev_le _ _ _ _ _ _ _ _ h
      have hle1 : σ.1 + 1 ≤ σ'.1 := hle.1
      have hle2 : σ.2.1 + q.toNatClampNeg ≤ σ'.2.1 := hle.2
      revert hle2
      revert hle1
      revert hv
      revert h
      revert ok
      match ns with
      | [] => intro ok h hv hle1 hle2; cases ok
      | [0] => intro ok h hv hle1 hle2; cases ok
      | [1] => intro ok h hv hle1 hle2; cases ok
      | [2] => intro ok h hv hle1 hle2; cases ok
      | [3] => intro ok h hv hle1 hle2; cases ok
      | [4] => intro ok h hv hle1 hle2; exact r_anewa C hm hA h0 hc (by omega) (Or.inl ⟨rfl, rfl⟩) (cl_any ok) hv (by omega) (by omega) dg (fun H1 hA' => HN _ _ _ _ _ _ _ _ _ h hA' hls (by show _ = σ.1 + 1; omega) (by show _ = _ + (σ.2.1 + _); omega))
      | [5] => intro ok h hv hle1 hle2; exact r_anewa C hm hA h0 hc (by omega) (Or.inr ⟨rfl, rfl⟩) (cl_any ok) hv (by omega) (by omega) dg (fun H1 hA' => HN _ _ _ _ _ _ _ _ _ h hA' hls (by show _ = σ.1 + 1; omega) (by show _ = _ + (σ.2.1 + _); omega))
      | [q + 6] => intro ok h hv hle1 hle2; cases ok
      | x1 :: x2 :: x3 => intro ok h hv hle1 hle2; exact absurd ok (by split <;> simp_all)
    · cases h
  | new i =>
    rw [Bool.and_eq_true] at ok
    obtain ⟨e1, ok⟩ := ok
    simp only [lnq, beq_iff_eq] at e1
    subst e1
    dsimp only [stepQ] at h
    revert h
    revert ok
    match ns with
    | [] => intro ok h; cases ok
    | [_] => intro ok h; cases ok
    | _ :: _ :: _ :: _ => intro ok h; cases ok
    | [ci, nf] =>
      intro ok h
      try dsimp only at ok
      simp only [Bool.and_eq_true, Nat.blt_eq, beq_iff_eq] at ok
      obtain ⟨⟨k1, k2⟩, k3⟩ := ok
      rw [(c_ck ci k1).1] at k3
      subst k3
      have h : ev n d m (pc + 3) ls (.ref σ.1 :: st) (addC σ (cD ci).2.2 (.inr (ci, dfl ci))) = some (r, σ') := h
      have hle := ev_le _ _ _ _ _ _ _ _ h
      have hle1 : σ.1 + 1 ≤ σ'.1 := hle.1
      have hle2 : σ.2.1 + (cD ci).2.2 ≤ σ'.2.1 := hle.2
      exact r_new C hm hA h0 hc (by omega) (cl_any k2) k1 (by omega) (by omega) dg (fun H1 hA' => HN _ _ _ _ _ _ _ _ _ h hA' hls (by show _ = σ.1 + 1; omega) (by show _ = _ + (σ.2.1 + _); omega))
  | invokevirtual i =>
    rw [Bool.and_eq_true] at ok
    obtain ⟨e1, ok⟩ := ok
    simp only [lnq, beq_iff_eq] at e1
    subst e1
    have hlsz : lsA.size = mxL m := hls.1
    dsimp only [stepQ] at h
    revert h
    revert ok
    match ns with
    | [] => intro ok h; cases ok
    | [0] => intro ok h; cases ok
    | [1] => intro ok h; cases ok
    | [2] =>
      intro ok h
      replace h : (match (generalizing := false) st with | .ref a :: st => bif okR st then bO (tLen σ a) (fun v => ev n d m (pc + 3) ls (.int v :: st) σ) else none | _ => none) = some (r, σ') := h
      split at h
      · rename_i a st
        cases eo : okR st with
        | false => rw [eo] at h; cases h
        | true =>
          rw [eo] at h
          obtain ⟨v, hv, h⟩ := bO_some h
          have hle := ev_le _ _ _ _ _ _ _ _ h
          have hle1 : σ.1 ≤ σ'.1 := hle.1
          have hle2 : σ.2.1 ≤ σ'.2.1 := hle.2
          exact r_tlen C hm hA (any3 ok) hv hlsz (by omega) (by omega) (okR_sum eo) (by omega) (by omega) dg (HS _ _ _ h hls)
      · cases h
    | [3] =>
      intro ok h
      replace h : (match (generalizing := false) st with | .int i :: .ref a :: st => bif okR st then bO (tCh σ a i) (fun v => ev n d m (pc + 3) ls (.int v :: st) σ) else none | _ => none) = some (r, σ') := h
      split at h
      · rename_i j a st
        cases eo : okR st with
        | false => rw [eo] at h; cases h
        | true =>
          rw [eo] at h
          obtain ⟨v, hv, h⟩ := bO_some h
          have hle := ev_le _ _ _ _ _ _ _ _ h
          have hle1 : σ.1 ≤ σ'.1 := hle.1
          have hle2 : σ.2.1 ≤ σ'.2.1 := hle.2
          exact r_tch C hm hA (any3 ok) hv hlsz (by omega) (by omega) (okR_sum eo) (by omega) (by omega) dg (HS _ _ _ h hls)
      · cases h
    | [q + 4] => intro ok h; cases ok
    | [_, _] => intro ok h; cases ok
    | [_, _, _] => intro ok h; cases ok
    | _ :: _ :: _ :: _ :: _ :: _ => intro ok h; cases ok
    | [mt, na, rk, cc] =>
      intro ok h
      try dsimp only at ok
      simp only [Bool.and_eq_true, Nat.blt_eq, beq_iff_eq] at ok
      obtain ⟨⟨⟨⟨⟨⟨k1, k2⟩, k3⟩, k4⟩, k5⟩, k6⟩, k7⟩ := ok
      subst k4; subst k5
      try dsimp only at h
      cases eo : okR (st.drop (mna.getD mt 0 + 1)) with
      | false => rw [eo] at h; cases h
      | true =>
        rw [eo] at h
        dsimp only [cond_true] at h
        split at h
        · rename_i a as hta
          cases el : (as.length + 1 == mna.getD mt 0 + 1 && okA mt (.ref a :: as)) with
          | false => rw [el] at h; cases h
          | true =>
            rw [el] at h
            dsimp only [cond_true] at h
            cases ei : isC σ (cNo mt) a with
            | false => rw [ei] at h; cases h
            | true =>
              rw [ei] at h
              dsimp only [cond_true] at h
              simp only [Bool.and_eq_true, beq_iff_eq] at el
              have el' : as.length = mna.getD mt 0 := by omega
              refine r_ivk C hm hA h0 hc hRc hRs hRf hRl hlsz k2 (ml_any k1 (by omega)) k3 hmet hbig el.2 (okR_sum eo) (take_rev hta) (Or.inr ⟨a, as, cNo mt, rfl, el', ei, k6, (ckO mt (by omega)).symm, Or.inr ⟨rfl, dg⟩⟩) h (fun τ st' H1 locs1 cells1 slots1 g1 g2 g3 g4 => HN _ _ _ _ _ _ _ _ _ g1 g2 hls g3 g4)
        · cases h
  | invokestatic i =>
    rw [Bool.and_eq_true] at ok
    obtain ⟨e1, ok⟩ := ok
    simp only [lnq, beq_iff_eq] at e1
    subst e1
    have hlsz : lsA.size = mxL m := hls.1
    dsimp only [stepQ] at h
    revert h
    revert ok
    match ns with
    | [] => intro ok h; cases ok
    | [0] => intro ok h; cases ok
    | [1] =>
      intro ok h
      replace h : (match (generalizing := false) st with | .int n0 :: .int dp :: .ref a :: .int sp :: .ref b :: st => bif okR st then bO (cpI σ b sp a dp n0) (fun σ => ev n d m (pc + 3) ls st σ) else none | _ => none) = some (r, σ') := h
      split at h
      · rename_i q dp a sp b st
        cases eo : okR st with
        | false => rw [eo] at h; cases h
        | true =>
          rw [eo] at h
          obtain ⟨τ, hv, h⟩ := bO_some h
          exact r_cp C hm hA (any3 ok) hv hlsz (by omega) (by omega) (by rw [cat_sum]; exact okR_sum eo) dg (fun H1 locs1 hA' => HM _ _ _ _ _ _ h hA' hls (le_cpe hv).1 (le_cpe hv).2)
      · cases h
    | [2] => intro ok h; cases ok
    | [3] => intro ok h; cases ok
    | [4] =>
      intro ok h
      replace h : (match (generalizing := false) st with | .int y :: .int x :: st => bif okR st then ev n d m (pc + 3) ls (.int (mnI x y) :: st) σ else none | _ => none) = some (r, σ') := h
      split at h
      · rename_i y x st
        cases eo : okR st with
        | false => rw [eo] at h; cases h
        | true =>
          rw [eo] at h
          have hle := ev_le _ _ _ _ _ _ _ _ h
          have hle1 : σ.1 ≤ σ'.1 := hle.1
          have hle2 : σ.2.1 ≤ σ'.2.1 := hle.2
          exact r_mn C hm (any3 ok) hlsz (by omega) (by omega) (okR_sum eo) (by omega) (by omega) dg (HS _ _ _ h hls)
      · cases h
    | [5] =>
      intro ok h
      replace h : (match (generalizing := false) st with | .int y :: .int x :: st => bif okR st then ev n d m (pc + 3) ls (.int (mxI x y) :: st) σ else none | _ => none) = some (r, σ') := h
      split at h
      · rename_i y x st
        cases eo : okR st with
        | false => rw [eo] at h; cases h
        | true =>
          rw [eo] at h
          have hle := ev_le _ _ _ _ _ _ _ _ h
          have hle1 : σ.1 ≤ σ'.1 := hle.1
          have hle2 : σ.2.1 ≤ σ'.2.1 := hle.2
          exact r_mx C hm (any3 ok) hlsz (by omega) (by omega) (okR_sum eo) (by omega) (by omega) dg (HS _ _ _ h hls)
      · cases h
    | [q + 6] => intro ok h; cases ok
    | [_, _] => intro ok h; cases ok
    | [_, _, _] => intro ok h; cases ok
    | _ :: _ :: _ :: _ :: _ :: _ => intro ok h; cases ok
    | [mt, na, rk, cc] =>
      intro ok h
      try dsimp only at ok
      simp only [Bool.and_eq_true, Nat.blt_eq, beq_iff_eq] at ok
      obtain ⟨⟨⟨⟨⟨k1, k2⟩, k3⟩, k4⟩, k5⟩, k7⟩ := ok
      subst k4; subst k5
      try dsimp only at h
      cases eo : (okR (st.drop (mna.getD mt 0)) && (st.take (mna.getD mt 0)).length == mna.getD mt 0 && okA mt (st.take (mna.getD mt 0)).reverse) with
      | false => rw [eo] at h; cases h
      | true =>
        rw [eo] at h
        dsimp only [cond_true] at h
        simp only [Bool.and_eq_true, beq_iff_eq] at eo
        refine r_ivk C hm hA h0 hc hRc hRs hRf hRl hlsz k2 (ml_any0 k1) k3 hmet hbig eo.2 (okR_sum eo.1.1) (take_rev rfl) (Or.inl ⟨rfl, by rw [List.length_reverse]; exact eo.1.2, dg⟩) h (fun τ st' H1 locs1 cells1 slots1 g1 g2 g3 g4 => HN _ _ _ _ _ _ _ _ _ g1 g2 hls g3 g4)
  | invokespecial i =>
    rw [Bool.and_eq_true] at ok
    obtain ⟨e1, ok⟩ := ok
    simp only [lnq, beq_iff_eq] at e1
    subst e1
    have hlsz : lsA.size = mxL m := hls.1
    dsimp only [stepQ] at h
    revert h
    revert ok
    match ns with
    | [] => intro ok h; cases ok
    | [0] =>
      intro ok h
      replace h : (match (generalizing := false) st with | .ref _ :: st => bif okR st then ev n d m (pc + 3) ls st σ else none | _ => none) = some (r, σ') := h
      split at h
      · rename_i a st
        cases eo : okR st with
        | false => rw [eo] at h; cases h
        | true =>
          rw [eo] at h
          exact r_oi C hm (any3 ok) hlsz (by omega) (by omega) (okR_sum eo) dg (HS _ _ _ h hls)
      · cases h
    | [q + 1] => intro ok h; cases ok
    | [_, _] => intro ok h; cases ok
    | [_, _, _] => intro ok h; cases ok
    | _ :: _ :: _ :: _ :: _ :: _ => intro ok h; cases ok
    | [mt, na, rk, cc] =>
      intro ok h
      try dsimp only at ok
      simp only [Bool.and_eq_true, Nat.blt_eq, beq_iff_eq, decide_eq_true_eq] at ok
      obtain ⟨⟨⟨⟨⟨⟨⟨k1, k2⟩, k3⟩, k4⟩, k5⟩, k6⟩, k7⟩, k8⟩ := ok
      subst k4; subst k5; subst k7
      try dsimp only at h
      cases eo : okR (st.drop (mna.getD mt 0 + 1)) with
      | false => rw [eo] at h; cases h
      | true =>
        rw [eo] at h
        dsimp only [cond_true] at h
        split at h
        · rename_i a as hta
          cases el : (as.length + 1 == mna.getD mt 0 + 1 && okA mt (.ref a :: as)) with
          | false => rw [el] at h; cases h
          | true =>
            rw [el] at h
            dsimp only [cond_true] at h
            cases ei : isC σ (cNo mt) a with
            | false => rw [ei] at h; cases h
            | true =>
              rw [ei] at h
              dsimp only [cond_true] at h
              simp only [Bool.and_eq_true, beq_iff_eq] at el
              have el' : as.length = mna.getD mt 0 := by omega
              refine r_ivk C hm hA h0 hc hRc hRs hRf hRl hlsz k2 (ml_any k1 (by omega)) k3 hmet hbig el.2 (okR_sum eo) (take_rev hta) (Or.inr ⟨a, as, cNo mt, rfl, el', ei, k6, (ckO mt (by omega)).symm, Or.inl ⟨rfl, k8, dg⟩⟩) h (fun τ st' H1 locs1 cells1 slots1 g1 g2 g3 g4 => HN _ _ _ _ _ _ _ _ _ g1 g2 hls g3 g4)
        · cases h
  | ireturn =>
    rw [Bool.and_eq_true] at ok
    obtain ⟨e1, ok⟩ := ok
    simp only [lnq, beq_iff_eq] at e1
    subst e1
    simp only [Bool.or_eq_true, Bool.and_eq_true, beq_iff_eq, decide_eq_true_eq] at ok
    dsimp only [stepQ] at h
    split at h
    · rename_i v
      rcases ok with ⟨e1, e2⟩ | ⟨e1, e2⟩
      · rw [e1] at h
        have h : some (some (Value.int v), σ) = some (r, σ') := h
        cases h
        exact hret H locs cells slots pc lsA hA hc rfl ⟨dg, Or.inl e2⟩
      · rw [e1] at h
        cases ez : okZ v with
        | false => rw [ez] at h; cases h
        | true =>
          rw [ez] at h
          have h : some (some (Value.int v), σ) = some (r, σ') := h
          cases h
          exact hret H locs cells slots pc lsA hA hc rfl ⟨dg, Or.inr ⟨e2, ez⟩⟩
    · cases h
  | lreturn =>
    rw [Bool.and_eq_true] at ok
    obtain ⟨e1, ok⟩ := ok
    simp only [lnq, beq_iff_eq] at e1
    subst e1
    dsimp only [stepQ] at h
    split at h
    · rename_i v
      cases ez : (rks.getD m 99 == 2) with
      | false => rw [ez] at h; cases h
      | true =>
        rw [ez] at h
        cases h
        exact hret H locs cells slots pc lsA hA hc rfl ⟨dg, of_decide_eq_true ok⟩
    · cases h
  | areturn =>
    rw [Bool.and_eq_true] at ok
    obtain ⟨e1, ok⟩ := ok
    simp only [lnq, beq_iff_eq] at e1
    subst e1
    dsimp only [stepQ] at h
    split at h
    · rename_i v
      cases ez : (rks.getD m 99 == 3 || rks.getD m 99 == 4) with
      | false => rw [ez] at h; cases h
      | true =>
        rw [ez] at h
        cases h
        exact hret H locs cells slots pc lsA hA hc rfl ⟨dg, ok⟩
    · cases ez : (rks.getD m 99 == 3 || rks.getD m 99 == 4) with
      | false => rw [ez] at h; cases h
      | true =>
        rw [ez] at h
        cases h
        exact hret H locs cells slots pc lsA hA hc rfl ⟨dg, ok⟩
    · cases h
  | return_ =>
    rw [Bool.and_eq_true] at ok
    obtain ⟨e1, ok⟩ := ok
    simp only [lnq, beq_iff_eq] at e1
    subst e1
    dsimp only [stepQ] at h
    split at h
    · cases ez : (rks.getD m 99 == 0) with
      | false => rw [ez] at h; cases h
      | true =>
        rw [ez] at h
        cases h
        exact hret H locs cells slots pc lsA hA hc rfl ⟨dg, of_decide_eq_true ok⟩
    · cases h
  | _ => cases h
