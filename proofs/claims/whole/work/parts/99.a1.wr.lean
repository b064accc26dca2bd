/-! ===== writes into what is kept (printed by wip/whole/gena1.py) ===== -/
theorem MK_w {f : Nat → Nat → Int32} {N : Nat → Nat} (hm : MK f N) {k v : Nat} (h3 : k ≠ 103) : MK (up f 60 (upd (f 60) k (wI v))) (upN N k v) := by
  refine ⟨fun j hj j3 => ?_, ?_⟩
  · rw [up_eq]
    by_cases e : j = k
    · rw [e, upd_eq, upN_eq]
    · rw [upd_ne _ _ _ e, upN_ne e]; exact hm.1 j hj j3
  · rw [up_eq, upd_ne _ _ _ (fun h => h3 h.symm), upN_ne (fun h => h3 h.symm)]; exact hm.2
theorem MK_up {f : Nat → Nat → Int32} {N : Nat → Nat} (hm : MK f N) {a : Nat} (ha : a ≠ 60) (g : Nat → Int32) : MK (up f a g) N := MK_60 hm (up_ne _ _ _ (fun h => ha h.symm))
theorem CK_pu {f : Nat → Nat → Int32} {N : Nat → Nat} {b : Nat} (hc : CK f b N) {p v : Nat} (hp : p < 6) : CK (up f (b + 1) (upd (f (b + 1)) p (wI v))) b (upN N p v) := by
  obtain ⟨c99, c100, c101, c102, c103, cpu, cow, cho, csu, cgr, cki, cdu, cpa, cfg, cfs, cda, cdm, cmo⟩ := hc
  exact ⟨(by rw [up_ne _ _ _ (by omega), upN_ne (by omega)]; exact c99), (by rw [up_ne _ _ _ (by omega), upN_ne (by omega)]; exact c100), (by rw [up_ne _ _ _ (by omega), upN_ne (by omega)]; exact c101), (by rw [up_ne _ _ _ (by omega), upN_ne (by omega)]; exact c102), (by rw [up_ne _ _ _ (by omega), upN_ne (by omega)]; exact c103), (fun j hj => by
    rw [up_eq]
    by_cases e : j = p
    · rw [e, upd_eq, upN_eq]
    · rw [upd_ne _ _ _ e, upN_ne (by omega)]; exact cpu j hj), (fun j hj => by rw [up_ne _ _ _ (by omega), upN_ne (by omega)]; exact cow j hj), (fun j hj => by rw [up_ne _ _ _ (by omega), upN_ne (by omega)]; exact cho j hj), (fun j hj => by rw [up_ne _ _ _ (by omega), upN_ne (by omega)]; exact csu j hj), (fun j hj => by rw [up_ne _ _ _ (by omega), upN_ne (by omega)]; exact cgr j hj), (fun j hj => by rw [up_ne _ _ _ (by omega), upN_ne (by omega)]; exact cki j hj), (fun j hj => by rw [up_ne _ _ _ (by omega), upN_ne (by omega)]; exact cdu j hj), (fun j hj => by rw [up_ne _ _ _ (by omega), upN_ne (by omega)]; exact cpa j hj), (fun j hj => by rw [up_ne _ _ _ (by omega), upN_ne (by omega)]; exact cfg j hj), (fun j hj => by rw [up_ne _ _ _ (by omega), upN_ne (by omega)]; exact cfs j hj), (by rw [up_ne _ _ _ (by omega), upN_ne (by omega)]; exact cda), (by rw [up_ne _ _ _ (by omega), upN_ne (by omega)]; exact cdm), (by rw [up_ne _ _ _ (by omega), upN_ne (by omega)]; exact cmo)⟩
theorem CK_ow {f : Nat → Nat → Int32} {N : Nat → Nat} {b : Nat} (hc : CK f b N) {p v : Nat} (hp : p < 10) : CK (up f (b + 2) (upd (f (b + 2)) p (wI v))) b (upN N (37 + p) v) := by
  obtain ⟨c99, c100, c101, c102, c103, cpu, cow, cho, csu, cgr, cki, cdu, cpa, cfg, cfs, cda, cdm, cmo⟩ := hc
  exact ⟨(by rw [up_ne _ _ _ (by omega), upN_ne (by omega)]; exact c99), (by rw [up_ne _ _ _ (by omega), upN_ne (by omega)]; exact c100), (by rw [up_ne _ _ _ (by omega), upN_ne (by omega)]; exact c101), (by rw [up_ne _ _ _ (by omega), upN_ne (by omega)]; exact c102), (by rw [up_ne _ _ _ (by omega), upN_ne (by omega)]; exact c103), (fun j hj => by rw [up_ne _ _ _ (by omega), upN_ne (by omega)]; exact cpu j hj), (fun j hj => by
    rw [up_eq]
    by_cases e : j = p
    · rw [e, upd_eq, upN_eq]
    · rw [upd_ne _ _ _ e, upN_ne (by omega)]; exact cow j hj), (fun j hj => by rw [up_ne _ _ _ (by omega), upN_ne (by omega)]; exact cho j hj), (fun j hj => by rw [up_ne _ _ _ (by omega), upN_ne (by omega)]; exact csu j hj), (fun j hj => by rw [up_ne _ _ _ (by omega), upN_ne (by omega)]; exact cgr j hj), (fun j hj => by rw [up_ne _ _ _ (by omega), upN_ne (by omega)]; exact cki j hj), (fun j hj => by rw [up_ne _ _ _ (by omega), upN_ne (by omega)]; exact cdu j hj), (fun j hj => by rw [up_ne _ _ _ (by omega), upN_ne (by omega)]; exact cpa j hj), (fun j hj => by rw [up_ne _ _ _ (by omega), upN_ne (by omega)]; exact cfg j hj), (fun j hj => by rw [up_ne _ _ _ (by omega), upN_ne (by omega)]; exact cfs j hj), (by rw [up_ne _ _ _ (by omega), upN_ne (by omega)]; exact cda), (by rw [up_ne _ _ _ (by omega), upN_ne (by omega)]; exact cdm), (by rw [up_ne _ _ _ (by omega), upN_ne (by omega)]; exact cmo)⟩
theorem CK_ho {f : Nat → Nat → Int32} {N : Nat → Nat} {b : Nat} (hc : CK f b N) {p v : Nat} (hp : p < 10) : CK (up f (b + 3) (upd (f (b + 3)) p (wI v))) b (upN N (6 + p) v) := by
  obtain ⟨c99, c100, c101, c102, c103, cpu, cow, cho, csu, cgr, cki, cdu, cpa, cfg, cfs, cda, cdm, cmo⟩ := hc
  exact ⟨(by rw [up_ne _ _ _ (by omega), upN_ne (by omega)]; exact c99), (by rw [up_ne _ _ _ (by omega), upN_ne (by omega)]; exact c100), (by rw [up_ne _ _ _ (by omega), upN_ne (by omega)]; exact c101), (by rw [up_ne _ _ _ (by omega), upN_ne (by omega)]; exact c102), (by rw [up_ne _ _ _ (by omega), upN_ne (by omega)]; exact c103), (fun j hj => by rw [up_ne _ _ _ (by omega), upN_ne (by omega)]; exact cpu j hj), (fun j hj => by rw [up_ne _ _ _ (by omega), upN_ne (by omega)]; exact cow j hj), (fun j hj => by
    rw [up_eq]
    by_cases e : j = p
    · rw [e, upd_eq, upN_eq]
    · rw [upd_ne _ _ _ e, upN_ne (by omega)]; exact cho j hj), (fun j hj => by rw [up_ne _ _ _ (by omega), upN_ne (by omega)]; exact csu j hj), (fun j hj => by rw [up_ne _ _ _ (by omega), upN_ne (by omega)]; exact cgr j hj), (fun j hj => by rw [up_ne _ _ _ (by omega), upN_ne (by omega)]; exact cki j hj), (fun j hj => by rw [up_ne _ _ _ (by omega), upN_ne (by omega)]; exact cdu j hj), (fun j hj => by rw [up_ne _ _ _ (by omega), upN_ne (by omega)]; exact cpa j hj), (fun j hj => by rw [up_ne _ _ _ (by omega), upN_ne (by omega)]; exact cfg j hj), (fun j hj => by rw [up_ne _ _ _ (by omega), upN_ne (by omega)]; exact cfs j hj), (by rw [up_ne _ _ _ (by omega), upN_ne (by omega)]; exact cda), (by rw [up_ne _ _ _ (by omega), upN_ne (by omega)]; exact cdm), (by rw [up_ne _ _ _ (by omega), upN_ne (by omega)]; exact cmo)⟩
theorem CK_su {f : Nat → Nat → Int32} {N : Nat → Nat} {b : Nat} (hc : CK f b N) {p v : Nat} (hp : p < 10) : CK (up f (b + 4) (upd (f (b + 4)) p (wI v))) b (upN N (16 + p) v) := by
  obtain ⟨c99, c100, c101, c102, c103, cpu, cow, cho, csu, cgr, cki, cdu, cpa, cfg, cfs, cda, cdm, cmo⟩ := hc
  exact ⟨(by rw [up_ne _ _ _ (by omega), upN_ne (by omega)]; exact c99), (by rw [up_ne _ _ _ (by omega), upN_ne (by omega)]; exact c100), (by rw [up_ne _ _ _ (by omega), upN_ne (by omega)]; exact c101), (by rw [up_ne _ _ _ (by omega), upN_ne (by omega)]; exact c102), (by rw [up_ne _ _ _ (by omega), upN_ne (by omega)]; exact c103), (fun j hj => by rw [up_ne _ _ _ (by omega), upN_ne (by omega)]; exact cpu j hj), (fun j hj => by rw [up_ne _ _ _ (by omega), upN_ne (by omega)]; exact cow j hj), (fun j hj => by rw [up_ne _ _ _ (by omega), upN_ne (by omega)]; exact cho j hj), (fun j hj => by
    rw [up_eq]
    by_cases e : j = p
    · rw [e, upd_eq, upN_eq]
    · rw [upd_ne _ _ _ e, upN_ne (by omega)]; exact csu j hj), (fun j hj => by rw [up_ne _ _ _ (by omega), upN_ne (by omega)]; exact cgr j hj), (fun j hj => by rw [up_ne _ _ _ (by omega), upN_ne (by omega)]; exact cki j hj), (fun j hj => by rw [up_ne _ _ _ (by omega), upN_ne (by omega)]; exact cdu j hj), (fun j hj => by rw [up_ne _ _ _ (by omega), upN_ne (by omega)]; exact cpa j hj), (fun j hj => by rw [up_ne _ _ _ (by omega), upN_ne (by omega)]; exact cfg j hj), (fun j hj => by rw [up_ne _ _ _ (by omega), upN_ne (by omega)]; exact cfs j hj), (by rw [up_ne _ _ _ (by omega), upN_ne (by omega)]; exact cda), (by rw [up_ne _ _ _ (by omega), upN_ne (by omega)]; exact cdm), (by rw [up_ne _ _ _ (by omega), upN_ne (by omega)]; exact cmo)⟩
theorem CK_gr {f : Nat → Nat → Int32} {N : Nat → Nat} {b : Nat} (hc : CK f b N) {p v : Nat} (hp : p < 10) : CK (up f (b + 5) (upd (f (b + 5)) p (wI v))) b (upN N (47 + p) v) := by
  obtain ⟨c99, c100, c101, c102, c103, cpu, cow, cho, csu, cgr, cki, cdu, cpa, cfg, cfs, cda, cdm, cmo⟩ := hc
  exact ⟨(by rw [up_ne _ _ _ (by omega), upN_ne (by omega)]; exact c99), (by rw [up_ne _ _ _ (by omega), upN_ne (by omega)]; exact c100), (by rw [up_ne _ _ _ (by omega), upN_ne (by omega)]; exact c101), (by rw [up_ne _ _ _ (by omega), upN_ne (by omega)]; exact c102), (by rw [up_ne _ _ _ (by omega), upN_ne (by omega)]; exact c103), (fun j hj => by rw [up_ne _ _ _ (by omega), upN_ne (by omega)]; exact cpu j hj), (fun j hj => by rw [up_ne _ _ _ (by omega), upN_ne (by omega)]; exact cow j hj), (fun j hj => by rw [up_ne _ _ _ (by omega), upN_ne (by omega)]; exact cho j hj), (fun j hj => by rw [up_ne _ _ _ (by omega), upN_ne (by omega)]; exact csu j hj), (fun j hj => by
    rw [up_eq]
    by_cases e : j = p
    · rw [e, upd_eq, upN_eq]
    · rw [upd_ne _ _ _ e, upN_ne (by omega)]; exact cgr j hj), (fun j hj => by rw [up_ne _ _ _ (by omega), upN_ne (by omega)]; exact cki j hj), (fun j hj => by rw [up_ne _ _ _ (by omega), upN_ne (by omega)]; exact cdu j hj), (fun j hj => by rw [up_ne _ _ _ (by omega), upN_ne (by omega)]; exact cpa j hj), (fun j hj => by rw [up_ne _ _ _ (by omega), upN_ne (by omega)]; exact cfg j hj), (fun j hj => by rw [up_ne _ _ _ (by omega), upN_ne (by omega)]; exact cfs j hj), (by rw [up_ne _ _ _ (by omega), upN_ne (by omega)]; exact cda), (by rw [up_ne _ _ _ (by omega), upN_ne (by omega)]; exact cdm), (by rw [up_ne _ _ _ (by omega), upN_ne (by omega)]; exact cmo)⟩
theorem CK_ki {f : Nat → Nat → Int32} {N : Nat → Nat} {b : Nat} (hc : CK f b N) {p v : Nat} (hp : p < 10) : CK (up f (b + 6) (upd (f (b + 6)) p (wI v))) b (upN N (57 + p) v) := by
  obtain ⟨c99, c100, c101, c102, c103, cpu, cow, cho, csu, cgr, cki, cdu, cpa, cfg, cfs, cda, cdm, cmo⟩ := hc
  exact ⟨(by rw [up_ne _ _ _ (by omega), upN_ne (by omega)]; exact c99), (by rw [up_ne _ _ _ (by omega), upN_ne (by omega)]; exact c100), (by rw [up_ne _ _ _ (by omega), upN_ne (by omega)]; exact c101), (by rw [up_ne _ _ _ (by omega), upN_ne (by omega)]; exact c102), (by rw [up_ne _ _ _ (by omega), upN_ne (by omega)]; exact c103), (fun j hj => by rw [up_ne _ _ _ (by omega), upN_ne (by omega)]; exact cpu j hj), (fun j hj => by rw [up_ne _ _ _ (by omega), upN_ne (by omega)]; exact cow j hj), (fun j hj => by rw [up_ne _ _ _ (by omega), upN_ne (by omega)]; exact cho j hj), (fun j hj => by rw [up_ne _ _ _ (by omega), upN_ne (by omega)]; exact csu j hj), (fun j hj => by rw [up_ne _ _ _ (by omega), upN_ne (by omega)]; exact cgr j hj), (fun j hj => by
    rw [up_eq]
    by_cases e : j = p
    · rw [e, upd_eq, upN_eq]
    · rw [upd_ne _ _ _ e, upN_ne (by omega)]; exact cki j hj), (fun j hj => by rw [up_ne _ _ _ (by omega), upN_ne (by omega)]; exact cdu j hj), (fun j hj => by rw [up_ne _ _ _ (by omega), upN_ne (by omega)]; exact cpa j hj), (fun j hj => by rw [up_ne _ _ _ (by omega), upN_ne (by omega)]; exact cfg j hj), (fun j hj => by rw [up_ne _ _ _ (by omega), upN_ne (by omega)]; exact cfs j hj), (by rw [up_ne _ _ _ (by omega), upN_ne (by omega)]; exact cda), (by rw [up_ne _ _ _ (by omega), upN_ne (by omega)]; exact cdm), (by rw [up_ne _ _ _ (by omega), upN_ne (by omega)]; exact cmo)⟩
theorem CK_du {f : Nat → Nat → Int32} {N : Nat → Nat} {b : Nat} (hc : CK f b N) {p v : Nat} (hp : p < 10) : CK (up f (b + 7) (upd (f (b + 7)) p (wI v))) b (upN N (67 + p) v) := by
  obtain ⟨c99, c100, c101, c102, c103, cpu, cow, cho, csu, cgr, cki, cdu, cpa, cfg, cfs, cda, cdm, cmo⟩ := hc
  exact ⟨(by rw [up_ne _ _ _ (by omega), upN_ne (by omega)]; exact c99), (by rw [up_ne _ _ _ (by omega), upN_ne (by omega)]; exact c100), (by rw [up_ne _ _ _ (by omega), upN_ne (by omega)]; exact c101), (by rw [up_ne _ _ _ (by omega), upN_ne (by omega)]; exact c102), (by rw [up_ne _ _ _ (by omega), upN_ne (by omega)]; exact c103), (fun j hj => by rw [up_ne _ _ _ (by omega), upN_ne (by omega)]; exact cpu j hj), (fun j hj => by rw [up_ne _ _ _ (by omega), upN_ne (by omega)]; exact cow j hj), (fun j hj => by rw [up_ne _ _ _ (by omega), upN_ne (by omega)]; exact cho j hj), (fun j hj => by rw [up_ne _ _ _ (by omega), upN_ne (by omega)]; exact csu j hj), (fun j hj => by rw [up_ne _ _ _ (by omega), upN_ne (by omega)]; exact cgr j hj), (fun j hj => by rw [up_ne _ _ _ (by omega), upN_ne (by omega)]; exact cki j hj), (fun j hj => by
    rw [up_eq]
    by_cases e : j = p
    · rw [e, upd_eq, upN_eq]
    · rw [upd_ne _ _ _ e, upN_ne (by omega)]; exact cdu j hj), (fun j hj => by rw [up_ne _ _ _ (by omega), upN_ne (by omega)]; exact cpa j hj), (fun j hj => by rw [up_ne _ _ _ (by omega), upN_ne (by omega)]; exact cfg j hj), (fun j hj => by rw [up_ne _ _ _ (by omega), upN_ne (by omega)]; exact cfs j hj), (by rw [up_ne _ _ _ (by omega), upN_ne (by omega)]; exact cda), (by rw [up_ne _ _ _ (by omega), upN_ne (by omega)]; exact cdm), (by rw [up_ne _ _ _ (by omega), upN_ne (by omega)]; exact cmo)⟩
theorem CK_pa {f : Nat → Nat → Int32} {N : Nat → Nat} {b : Nat} (hc : CK f b N) {p v : Nat} (hp : p < 10) : CK (up f (b + 8) (upd (f (b + 8)) p (wI v))) b (upN N (26 + p) v) := by
  obtain ⟨c99, c100, c101, c102, c103, cpu, cow, cho, csu, cgr, cki, cdu, cpa, cfg, cfs, cda, cdm, cmo⟩ := hc
  exact ⟨(by rw [up_ne _ _ _ (by omega), upN_ne (by omega)]; exact c99), (by rw [up_ne _ _ _ (by omega), upN_ne (by omega)]; exact c100), (by rw [up_ne _ _ _ (by omega), upN_ne (by omega)]; exact c101), (by rw [up_ne _ _ _ (by omega), upN_ne (by omega)]; exact c102), (by rw [up_ne _ _ _ (by omega), upN_ne (by omega)]; exact c103), (fun j hj => by rw [up_ne _ _ _ (by omega), upN_ne (by omega)]; exact cpu j hj), (fun j hj => by rw [up_ne _ _ _ (by omega), upN_ne (by omega)]; exact cow j hj), (fun j hj => by rw [up_ne _ _ _ (by omega), upN_ne (by omega)]; exact cho j hj), (fun j hj => by rw [up_ne _ _ _ (by omega), upN_ne (by omega)]; exact csu j hj), (fun j hj => by rw [up_ne _ _ _ (by omega), upN_ne (by omega)]; exact cgr j hj), (fun j hj => by rw [up_ne _ _ _ (by omega), upN_ne (by omega)]; exact cki j hj), (fun j hj => by rw [up_ne _ _ _ (by omega), upN_ne (by omega)]; exact cdu j hj), (fun j hj => by
    rw [up_eq]
    by_cases e : j = p
    · rw [e, upd_eq, upN_eq]
    · rw [upd_ne _ _ _ e, upN_ne (by omega)]; exact cpa j hj), (fun j hj => by rw [up_ne _ _ _ (by omega), upN_ne (by omega)]; exact cfg j hj), (fun j hj => by rw [up_ne _ _ _ (by omega), upN_ne (by omega)]; exact cfs j hj), (by rw [up_ne _ _ _ (by omega), upN_ne (by omega)]; exact cda), (by rw [up_ne _ _ _ (by omega), upN_ne (by omega)]; exact cdm), (by rw [up_ne _ _ _ (by omega), upN_ne (by omega)]; exact cmo)⟩
theorem CK_fg {f : Nat → Nat → Int32} {N : Nat → Nat} {b : Nat} (hc : CK f b N) {p v : Nat} (hp : p < 10) : CK (up f (b + 9) (upd (f (b + 9)) p (wI v))) b (upN N (77 + p) v) := by
  obtain ⟨c99, c100, c101, c102, c103, cpu, cow, cho, csu, cgr, cki, cdu, cpa, cfg, cfs, cda, cdm, cmo⟩ := hc
  exact ⟨(by rw [up_ne _ _ _ (by omega), upN_ne (by omega)]; exact c99), (by rw [up_ne _ _ _ (by omega), upN_ne (by omega)]; exact c100), (by rw [up_ne _ _ _ (by omega), upN_ne (by omega)]; exact c101), (by rw [up_ne _ _ _ (by omega), upN_ne (by omega)]; exact c102), (by rw [up_ne _ _ _ (by omega), upN_ne (by omega)]; exact c103), (fun j hj => by rw [up_ne _ _ _ (by omega), upN_ne (by omega)]; exact cpu j hj), (fun j hj => by rw [up_ne _ _ _ (by omega), upN_ne (by omega)]; exact cow j hj), (fun j hj => by rw [up_ne _ _ _ (by omega), upN_ne (by omega)]; exact cho j hj), (fun j hj => by rw [up_ne _ _ _ (by omega), upN_ne (by omega)]; exact csu j hj), (fun j hj => by rw [up_ne _ _ _ (by omega), upN_ne (by omega)]; exact cgr j hj), (fun j hj => by rw [up_ne _ _ _ (by omega), upN_ne (by omega)]; exact cki j hj), (fun j hj => by rw [up_ne _ _ _ (by omega), upN_ne (by omega)]; exact cdu j hj), (fun j hj => by rw [up_ne _ _ _ (by omega), upN_ne (by omega)]; exact cpa j hj), (fun j hj => by
    rw [up_eq]
    by_cases e : j = p
    · rw [e, upd_eq, upN_eq]
    · rw [upd_ne _ _ _ e, upN_ne (by omega)]; exact cfg j hj), (fun j hj => by rw [up_ne _ _ _ (by omega), upN_ne (by omega)]; exact cfs j hj), (by rw [up_ne _ _ _ (by omega), upN_ne (by omega)]; exact cda), (by rw [up_ne _ _ _ (by omega), upN_ne (by omega)]; exact cdm), (by rw [up_ne _ _ _ (by omega), upN_ne (by omega)]; exact cmo)⟩
theorem CK_fs {f : Nat → Nat → Int32} {N : Nat → Nat} {b : Nat} (hc : CK f b N) {p v : Nat} (hp : p < 10) : CK (up f (b + 10) (upd (f (b + 10)) p (wI v))) b (upN N (87 + p) v) := by
  obtain ⟨c99, c100, c101, c102, c103, cpu, cow, cho, csu, cgr, cki, cdu, cpa, cfg, cfs, cda, cdm, cmo⟩ := hc
  exact ⟨(by rw [up_ne _ _ _ (by omega), upN_ne (by omega)]; exact c99), (by rw [up_ne _ _ _ (by omega), upN_ne (by omega)]; exact c100), (by rw [up_ne _ _ _ (by omega), upN_ne (by omega)]; exact c101), (by rw [up_ne _ _ _ (by omega), upN_ne (by omega)]; exact c102), (by rw [up_ne _ _ _ (by omega), upN_ne (by omega)]; exact c103), (fun j hj => by rw [up_ne _ _ _ (by omega), upN_ne (by omega)]; exact cpu j hj), (fun j hj => by rw [up_ne _ _ _ (by omega), upN_ne (by omega)]; exact cow j hj), (fun j hj => by rw [up_ne _ _ _ (by omega), upN_ne (by omega)]; exact cho j hj), (fun j hj => by rw [up_ne _ _ _ (by omega), upN_ne (by omega)]; exact csu j hj), (fun j hj => by rw [up_ne _ _ _ (by omega), upN_ne (by omega)]; exact cgr j hj), (fun j hj => by rw [up_ne _ _ _ (by omega), upN_ne (by omega)]; exact cki j hj), (fun j hj => by rw [up_ne _ _ _ (by omega), upN_ne (by omega)]; exact cdu j hj), (fun j hj => by rw [up_ne _ _ _ (by omega), upN_ne (by omega)]; exact cpa j hj), (fun j hj => by rw [up_ne _ _ _ (by omega), upN_ne (by omega)]; exact cfg j hj), (fun j hj => by
    rw [up_eq]
    by_cases e : j = p
    · rw [e, upd_eq, upN_eq]
    · rw [upd_ne _ _ _ e, upN_ne (by omega)]; exact cfs j hj), (by rw [up_ne _ _ _ (by omega), upN_ne (by omega)]; exact cda), (by rw [up_ne _ _ _ (by omega), upN_ne (by omega)]; exact cdm), (by rw [up_ne _ _ _ (by omega), upN_ne (by omega)]; exact cmo)⟩
theorem CK_da {f : Nat → Nat → Int32} {N : Nat → Nat} {b : Nat} (hc : CK f b N) {v : Nat} : CK (up f (b + 11) (upd (f (b + 11)) 0 (wI v))) b (upN N 36 v) := by
  obtain ⟨c99, c100, c101, c102, c103, cpu, cow, cho, csu, cgr, cki, cdu, cpa, cfg, cfs, cda, cdm, cmo⟩ := hc
  exact ⟨(by rw [up_ne _ _ _ (by omega), upN_ne (by omega)]; exact c99), (by rw [up_ne _ _ _ (by omega), upN_ne (by omega)]; exact c100), (by rw [up_ne _ _ _ (by omega), upN_ne (by omega)]; exact c101), (by rw [up_ne _ _ _ (by omega), upN_ne (by omega)]; exact c102), (by rw [up_ne _ _ _ (by omega), upN_ne (by omega)]; exact c103), (fun j hj => by rw [up_ne _ _ _ (by omega), upN_ne (by omega)]; exact cpu j hj), (fun j hj => by rw [up_ne _ _ _ (by omega), upN_ne (by omega)]; exact cow j hj), (fun j hj => by rw [up_ne _ _ _ (by omega), upN_ne (by omega)]; exact cho j hj), (fun j hj => by rw [up_ne _ _ _ (by omega), upN_ne (by omega)]; exact csu j hj), (fun j hj => by rw [up_ne _ _ _ (by omega), upN_ne (by omega)]; exact cgr j hj), (fun j hj => by rw [up_ne _ _ _ (by omega), upN_ne (by omega)]; exact cki j hj), (fun j hj => by rw [up_ne _ _ _ (by omega), upN_ne (by omega)]; exact cdu j hj), (fun j hj => by rw [up_ne _ _ _ (by omega), upN_ne (by omega)]; exact cpa j hj), (fun j hj => by rw [up_ne _ _ _ (by omega), upN_ne (by omega)]; exact cfg j hj), (fun j hj => by rw [up_ne _ _ _ (by omega), upN_ne (by omega)]; exact cfs j hj), (by rw [up_eq, upd_eq, upN_eq]), (by rw [up_eq, upd_ne _ _ _ (by omega), upN_ne (by omega)]; exact cdm), (by rw [up_eq, upd_ne _ _ _ (by omega), upN_ne (by omega)]; exact cmo)⟩
theorem CK_dm {f : Nat → Nat → Int32} {N : Nat → Nat} {b : Nat} (hc : CK f b N) {v : Nat} : CK (up f (b + 11) (upd (f (b + 11)) 1 (wI v))) b (upN N 97 v) := by
  obtain ⟨c99, c100, c101, c102, c103, cpu, cow, cho, csu, cgr, cki, cdu, cpa, cfg, cfs, cda, cdm, cmo⟩ := hc
  exact ⟨(by rw [up_ne _ _ _ (by omega), upN_ne (by omega)]; exact c99), (by rw [up_ne _ _ _ (by omega), upN_ne (by omega)]; exact c100), (by rw [up_ne _ _ _ (by omega), upN_ne (by omega)]; exact c101), (by rw [up_ne _ _ _ (by omega), upN_ne (by omega)]; exact c102), (by rw [up_ne _ _ _ (by omega), upN_ne (by omega)]; exact c103), (fun j hj => by rw [up_ne _ _ _ (by omega), upN_ne (by omega)]; exact cpu j hj), (fun j hj => by rw [up_ne _ _ _ (by omega), upN_ne (by omega)]; exact cow j hj), (fun j hj => by rw [up_ne _ _ _ (by omega), upN_ne (by omega)]; exact cho j hj), (fun j hj => by rw [up_ne _ _ _ (by omega), upN_ne (by omega)]; exact csu j hj), (fun j hj => by rw [up_ne _ _ _ (by omega), upN_ne (by omega)]; exact cgr j hj), (fun j hj => by rw [up_ne _ _ _ (by omega), upN_ne (by omega)]; exact cki j hj), (fun j hj => by rw [up_ne _ _ _ (by omega), upN_ne (by omega)]; exact cdu j hj), (fun j hj => by rw [up_ne _ _ _ (by omega), upN_ne (by omega)]; exact cpa j hj), (fun j hj => by rw [up_ne _ _ _ (by omega), upN_ne (by omega)]; exact cfg j hj), (fun j hj => by rw [up_ne _ _ _ (by omega), upN_ne (by omega)]; exact cfs j hj), (by rw [up_eq, upd_ne _ _ _ (by omega), upN_ne (by omega)]; exact cda), (by rw [up_eq, upd_eq, upN_eq]), (by rw [up_eq, upd_ne _ _ _ (by omega), upN_ne (by omega)]; exact cmo)⟩
theorem CK_mo {f : Nat → Nat → Int32} {N : Nat → Nat} {b : Nat} (hc : CK f b N) {v : Nat} : CK (up f (b + 11) (upd (f (b + 11)) 2 (wI v))) b (upN N 98 v) := by
  obtain ⟨c99, c100, c101, c102, c103, cpu, cow, cho, csu, cgr, cki, cdu, cpa, cfg, cfs, cda, cdm, cmo⟩ := hc
  exact ⟨(by rw [up_ne _ _ _ (by omega), upN_ne (by omega)]; exact c99), (by rw [up_ne _ _ _ (by omega), upN_ne (by omega)]; exact c100), (by rw [up_ne _ _ _ (by omega), upN_ne (by omega)]; exact c101), (by rw [up_ne _ _ _ (by omega), upN_ne (by omega)]; exact c102), (by rw [up_ne _ _ _ (by omega), upN_ne (by omega)]; exact c103), (fun j hj => by rw [up_ne _ _ _ (by omega), upN_ne (by omega)]; exact cpu j hj), (fun j hj => by rw [up_ne _ _ _ (by omega), upN_ne (by omega)]; exact cow j hj), (fun j hj => by rw [up_ne _ _ _ (by omega), upN_ne (by omega)]; exact cho j hj), (fun j hj => by rw [up_ne _ _ _ (by omega), upN_ne (by omega)]; exact csu j hj), (fun j hj => by rw [up_ne _ _ _ (by omega), upN_ne (by omega)]; exact cgr j hj), (fun j hj => by rw [up_ne _ _ _ (by omega), upN_ne (by omega)]; exact cki j hj), (fun j hj => by rw [up_ne _ _ _ (by omega), upN_ne (by omega)]; exact cdu j hj), (fun j hj => by rw [up_ne _ _ _ (by omega), upN_ne (by omega)]; exact cpa j hj), (fun j hj => by rw [up_ne _ _ _ (by omega), upN_ne (by omega)]; exact cfg j hj), (fun j hj => by rw [up_ne _ _ _ (by omega), upN_ne (by omega)]; exact cfs j hj), (by rw [up_eq, upd_ne _ _ _ (by omega), upN_ne (by omega)]; exact cda), (by rw [up_eq, upd_ne _ _ _ (by omega), upN_ne (by omega)]; exact cdm), (by rw [up_eq, upd_eq, upN_eq])⟩
theorem CK_n99 {f : Nat → Nat → Int32} {N : Nat → Nat} {b : Nat} (hc : CK f b N) {v : Nat} : CK (up f b (upd (f b) 0 (wI v))) b (upN N 99 v) := by
  obtain ⟨c99, c100, c101, c102, c103, cpu, cow, cho, csu, cgr, cki, cdu, cpa, cfg, cfs, cda, cdm, cmo⟩ := hc
  exact ⟨(by rw [up_eq, upd_eq, upN_eq]), (by rw [up_eq, upd_ne _ _ _ (by omega), upN_ne (by omega)]; exact c100), (by rw [up_eq, upd_ne _ _ _ (by omega), upN_ne (by omega)]; exact c101), (by rw [up_eq, upd_ne _ _ _ (by omega), upN_ne (by omega)]; exact c102), (by rw [up_eq, upd_ne _ _ _ (by omega), upN_ne (by omega)]; exact c103), (fun j hj => by rw [up_ne _ _ _ (by omega), upN_ne (by omega)]; exact cpu j hj), (fun j hj => by rw [up_ne _ _ _ (by omega), upN_ne (by omega)]; exact cow j hj), (fun j hj => by rw [up_ne _ _ _ (by omega), upN_ne (by omega)]; exact cho j hj), (fun j hj => by rw [up_ne _ _ _ (by omega), upN_ne (by omega)]; exact csu j hj), (fun j hj => by rw [up_ne _ _ _ (by omega), upN_ne (by omega)]; exact cgr j hj), (fun j hj => by rw [up_ne _ _ _ (by omega), upN_ne (by omega)]; exact cki j hj), (fun j hj => by rw [up_ne _ _ _ (by omega), upN_ne (by omega)]; exact cdu j hj), (fun j hj => by rw [up_ne _ _ _ (by omega), upN_ne (by omega)]; exact cpa j hj), (fun j hj => by rw [up_ne _ _ _ (by omega), upN_ne (by omega)]; exact cfg j hj), (fun j hj => by rw [up_ne _ _ _ (by omega), upN_ne (by omega)]; exact cfs j hj), (by rw [up_ne _ _ _ (by omega), upN_ne (by omega)]; exact cda), (by rw [up_ne _ _ _ (by omega), upN_ne (by omega)]; exact cdm), (by rw [up_ne _ _ _ (by omega), upN_ne (by omega)]; exact cmo)⟩
theorem CK_n100 {f : Nat → Nat → Int32} {N : Nat → Nat} {b : Nat} (hc : CK f b N) {v : Nat} : CK (up f b (upd (f b) 2 (wI v))) b (upN N 100 v) := by
  obtain ⟨c99, c100, c101, c102, c103, cpu, cow, cho, csu, cgr, cki, cdu, cpa, cfg, cfs, cda, cdm, cmo⟩ := hc
  exact ⟨(by rw [up_eq, upd_ne _ _ _ (by omega), upN_ne (by omega)]; exact c99), (by rw [up_eq, upd_eq, upN_eq]), (by rw [up_eq, upd_ne _ _ _ (by omega), upN_ne (by omega)]; exact c101), (by rw [up_eq, upd_ne _ _ _ (by omega), upN_ne (by omega)]; exact c102), (by rw [up_eq, upd_ne _ _ _ (by omega), upN_ne (by omega)]; exact c103), (fun j hj => by rw [up_ne _ _ _ (by omega), upN_ne (by omega)]; exact cpu j hj), (fun j hj => by rw [up_ne _ _ _ (by omega), upN_ne (by omega)]; exact cow j hj), (fun j hj => by rw [up_ne _ _ _ (by omega), upN_ne (by omega)]; exact cho j hj), (fun j hj => by rw [up_ne _ _ _ (by omega), upN_ne (by omega)]; exact csu j hj), (fun j hj => by rw [up_ne _ _ _ (by omega), upN_ne (by omega)]; exact cgr j hj), (fun j hj => by rw [up_ne _ _ _ (by omega), upN_ne (by omega)]; exact cki j hj), (fun j hj => by rw [up_ne _ _ _ (by omega), upN_ne (by omega)]; exact cdu j hj), (fun j hj => by rw [up_ne _ _ _ (by omega), upN_ne (by omega)]; exact cpa j hj), (fun j hj => by rw [up_ne _ _ _ (by omega), upN_ne (by omega)]; exact cfg j hj), (fun j hj => by rw [up_ne _ _ _ (by omega), upN_ne (by omega)]; exact cfs j hj), (by rw [up_ne _ _ _ (by omega), upN_ne (by omega)]; exact cda), (by rw [up_ne _ _ _ (by omega), upN_ne (by omega)]; exact cdm), (by rw [up_ne _ _ _ (by omega), upN_ne (by omega)]; exact cmo)⟩
theorem CK_n101 {f : Nat → Nat → Int32} {N : Nat → Nat} {b : Nat} (hc : CK f b N) {v : Nat} : CK (up f b (upd (f b) 10 (wI v))) b (upN N 101 v) := by
  obtain ⟨c99, c100, c101, c102, c103, cpu, cow, cho, csu, cgr, cki, cdu, cpa, cfg, cfs, cda, cdm, cmo⟩ := hc
  exact ⟨(by rw [up_eq, upd_ne _ _ _ (by omega), upN_ne (by omega)]; exact c99), (by rw [up_eq, upd_ne _ _ _ (by omega), upN_ne (by omega)]; exact c100), (by rw [up_eq, upd_eq, upN_eq]), (by rw [up_eq, upd_ne _ _ _ (by omega), upN_ne (by omega)]; exact c102), (by rw [up_eq, upd_ne _ _ _ (by omega), upN_ne (by omega)]; exact c103), (fun j hj => by rw [up_ne _ _ _ (by omega), upN_ne (by omega)]; exact cpu j hj), (fun j hj => by rw [up_ne _ _ _ (by omega), upN_ne (by omega)]; exact cow j hj), (fun j hj => by rw [up_ne _ _ _ (by omega), upN_ne (by omega)]; exact cho j hj), (fun j hj => by rw [up_ne _ _ _ (by omega), upN_ne (by omega)]; exact csu j hj), (fun j hj => by rw [up_ne _ _ _ (by omega), upN_ne (by omega)]; exact cgr j hj), (fun j hj => by rw [up_ne _ _ _ (by omega), upN_ne (by omega)]; exact cki j hj), (fun j hj => by rw [up_ne _ _ _ (by omega), upN_ne (by omega)]; exact cdu j hj), (fun j hj => by rw [up_ne _ _ _ (by omega), upN_ne (by omega)]; exact cpa j hj), (fun j hj => by rw [up_ne _ _ _ (by omega), upN_ne (by omega)]; exact cfg j hj), (fun j hj => by rw [up_ne _ _ _ (by omega), upN_ne (by omega)]; exact cfs j hj), (by rw [up_ne _ _ _ (by omega), upN_ne (by omega)]; exact cda), (by rw [up_ne _ _ _ (by omega), upN_ne (by omega)]; exact cdm), (by rw [up_ne _ _ _ (by omega), upN_ne (by omega)]; exact cmo)⟩
theorem CK_n102 {f : Nat → Nat → Int32} {N : Nat → Nat} {b : Nat} (hc : CK f b N) {v : Nat} : CK (up f b (upd (f b) 14 (wI v))) b (upN N 102 v) := by
  obtain ⟨c99, c100, c101, c102, c103, cpu, cow, cho, csu, cgr, cki, cdu, cpa, cfg, cfs, cda, cdm, cmo⟩ := hc
  exact ⟨(by rw [up_eq, upd_ne _ _ _ (by omega), upN_ne (by omega)]; exact c99), (by rw [up_eq, upd_ne _ _ _ (by omega), upN_ne (by omega)]; exact c100), (by rw [up_eq, upd_ne _ _ _ (by omega), upN_ne (by omega)]; exact c101), (by rw [up_eq, upd_eq, upN_eq]), (by rw [up_eq, upd_ne _ _ _ (by omega), upN_ne (by omega)]; exact c103), (fun j hj => by rw [up_ne _ _ _ (by omega), upN_ne (by omega)]; exact cpu j hj), (fun j hj => by rw [up_ne _ _ _ (by omega), upN_ne (by omega)]; exact cow j hj), (fun j hj => by rw [up_ne _ _ _ (by omega), upN_ne (by omega)]; exact cho j hj), (fun j hj => by rw [up_ne _ _ _ (by omega), upN_ne (by omega)]; exact csu j hj), (fun j hj => by rw [up_ne _ _ _ (by omega), upN_ne (by omega)]; exact cgr j hj), (fun j hj => by rw [up_ne _ _ _ (by omega), upN_ne (by omega)]; exact cki j hj), (fun j hj => by rw [up_ne _ _ _ (by omega), upN_ne (by omega)]; exact cdu j hj), (fun j hj => by rw [up_ne _ _ _ (by omega), upN_ne (by omega)]; exact cpa j hj), (fun j hj => by rw [up_ne _ _ _ (by omega), upN_ne (by omega)]; exact cfg j hj), (fun j hj => by rw [up_ne _ _ _ (by omega), upN_ne (by omega)]; exact cfs j hj), (by rw [up_ne _ _ _ (by omega), upN_ne (by omega)]; exact cda), (by rw [up_ne _ _ _ (by omega), upN_ne (by omega)]; exact cdm), (by rw [up_ne _ _ _ (by omega), upN_ne (by omega)]; exact cmo)⟩
theorem CK_n103 {f : Nat → Nat → Int32} {N : Nat → Nat} {b : Nat} (hc : CK f b N) {v : Nat} : CK (up f b (upd (f b) 16 (wI v - 1))) b (upN N 103 v) := by
  obtain ⟨c99, c100, c101, c102, c103, cpu, cow, cho, csu, cgr, cki, cdu, cpa, cfg, cfs, cda, cdm, cmo⟩ := hc
  exact ⟨(by rw [up_eq, upd_ne _ _ _ (by omega), upN_ne (by omega)]; exact c99), (by rw [up_eq, upd_ne _ _ _ (by omega), upN_ne (by omega)]; exact c100), (by rw [up_eq, upd_ne _ _ _ (by omega), upN_ne (by omega)]; exact c101), (by rw [up_eq, upd_ne _ _ _ (by omega), upN_ne (by omega)]; exact c102), (by rw [up_eq, upd_eq, upN_eq]), (fun j hj => by rw [up_ne _ _ _ (by omega), upN_ne (by omega)]; exact cpu j hj), (fun j hj => by rw [up_ne _ _ _ (by omega), upN_ne (by omega)]; exact cow j hj), (fun j hj => by rw [up_ne _ _ _ (by omega), upN_ne (by omega)]; exact cho j hj), (fun j hj => by rw [up_ne _ _ _ (by omega), upN_ne (by omega)]; exact csu j hj), (fun j hj => by rw [up_ne _ _ _ (by omega), upN_ne (by omega)]; exact cgr j hj), (fun j hj => by rw [up_ne _ _ _ (by omega), upN_ne (by omega)]; exact cki j hj), (fun j hj => by rw [up_ne _ _ _ (by omega), upN_ne (by omega)]; exact cdu j hj), (fun j hj => by rw [up_ne _ _ _ (by omega), upN_ne (by omega)]; exact cpa j hj), (fun j hj => by rw [up_ne _ _ _ (by omega), upN_ne (by omega)]; exact cfg j hj), (fun j hj => by rw [up_ne _ _ _ (by omega), upN_ne (by omega)]; exact cfs j hj), (by rw [up_ne _ _ _ (by omega), upN_ne (by omega)]; exact cda), (by rw [up_ne _ _ _ (by omega), upN_ne (by omega)]; exact cdm), (by rw [up_ne _ _ _ (by omega), upN_ne (by omega)]; exact cmo)⟩
def stkOK (N : Nat → Nat) (j : Nat) : Prop := N (6 + j) < N 99 ∧ N (37 + j) < N 99 ∧ N (6 + j) ≠ N (37 + j) ∧ 1 ≤ N (16 + j)
/-- a write keeps what always holds -/
theorem VK_up {N : Nat → Nat} (hv : VK N) {k v : Nat} (h0 : v < 2147483648) (h1 : k < 6 → v ≤ 9999) (h2 : 6 ≤ k → k < 16 → v < 6 ∧ (k - 6 < N 100 → v < N 99 ∧ v ≠ N (37 + (k - 6)))) (h3 : 16 ≤ k → k < 26 → v ≤ 999 ∧ (k - 16 < N 100 → 1 ≤ v)) (h4 : 26 ≤ k → k < 36 → v ≤ 1) (h5 : k = 36 → v ≤ 999)
    (h6 : 37 ≤ k → k < 47 → v < 6 ∧ (k - 37 < N 100 → v < N 99 ∧ N (6 + (k - 37)) ≠ v)) (h7 : 47 ≤ k → k < 57 → v ≤ 4095) (h8 : 57 ≤ k → k < 67 → v ≤ 3) (h9 : 67 ≤ k → k < 77 → v ≤ 999) (h10 : 77 ≤ k → k < 87 → v ≤ 4095) (h11 : 87 ≤ k → k < 97 → v ≤ 999 ∧ (k - 87 < N 101 → 1 ≤ v)) (h12 : k = 97 → v ≤ 12) (h13 : k = 98 → v ≤ 9)
    (h14 : k = 99 → v ≤ 6 ∧ N 99 ≤ v) (h15 : k = 100 → v ≤ 10 ∧ ∀ j, j < v → stkOK N j) (h16 : k = 101 → v ≤ 10 ∧ ∀ j, j < v → 1 ≤ N (87 + j)) (h17 : k = 102 → v ≤ 6 ∧ N 103 ≤ v) (h18 : k = 103 → v ≤ N 102) : VK (upN N k v) := by
  obtain ⟨hB, v99, v100, v101, v102, v103, v36, v97, v98, vp, vs, vo, vf⟩ := hv
  have E : ∀ j, (j ≠ k ∧ upN N k v j = N j) ∨ (j = k ∧ upN N k v j = v) := fun j => by
    by_cases e : j = k
    · exact Or.inr ⟨e, by rw [e, upN_eq]⟩
    · exact Or.inl ⟨e, upN_ne e⟩
  refine ⟨fun j => ?_, ?_, ?_, ?_, ?_, ?_, ?_, ?_, ?_, fun j hj => ?_, fun j hj => ⟨?_, ?_, ?_, ?_, ?_, ?_, ?_, ?_, ?_⟩, fun j hj => ?_, fun j hj => ?_⟩
  · rcases E j with ⟨e, q⟩ | ⟨e, q⟩ <;> rw [q]
    · exact hB j
    · exact h0
  · rcases E 99 with ⟨e, q⟩ | ⟨e, q⟩ <;> rw [q]
    · exact v99
    · exact (h14 e.symm).1
  · rcases E 100 with ⟨e, q⟩ | ⟨e, q⟩ <;> rw [q]
    · exact v100
    · exact (h15 e.symm).1
  · rcases E 101 with ⟨e, q⟩ | ⟨e, q⟩ <;> rw [q]
    · exact v101
    · exact (h16 e.symm).1
  · rcases E 102 with ⟨e, q⟩ | ⟨e, q⟩ <;> rw [q]
    · exact v102
    · exact (h17 e.symm).1
  · rcases E 102 with ⟨e, q⟩ | ⟨e, q⟩ <;> rw [q]
    · rcases E 103 with ⟨e', q'⟩ | ⟨e', q'⟩ <;> rw [q']
      · exact v103
      · exact h18 e'.symm
    · rcases E 103 with ⟨e', q'⟩ | ⟨e', q'⟩ <;> rw [q']
      · exact (h17 e.symm).2
      · omega
  · rcases E 36 with ⟨e, q⟩ | ⟨e, q⟩ <;> rw [q]
    · exact v36
    · exact h5 e.symm
  · rcases E 97 with ⟨e, q⟩ | ⟨e, q⟩ <;> rw [q]
    · exact v97
    · exact h12 e.symm
  · rcases E 98 with ⟨e, q⟩ | ⟨e, q⟩ <;> rw [q]
    · exact v98
    · exact h13 e.symm
  · rcases E j with ⟨e, q⟩ | ⟨e, q⟩ <;> rw [q]
    · exact vp j hj
    · exact h1 (by omega)
  · rcases E (6 + j) with ⟨e, q⟩ | ⟨e, q⟩ <;> rw [q]
    · exact (vs j hj).1
    · exact (h2 (by omega) (by omega)).1
  · rcases E (16 + j) with ⟨e, q⟩ | ⟨e, q⟩ <;> rw [q]
    · exact (vs j hj).2.1
    · exact (h3 (by omega) (by omega)).1
  · rcases E (26 + j) with ⟨e, q⟩ | ⟨e, q⟩ <;> rw [q]
    · exact (vs j hj).2.2.1
    · exact h4 (by omega) (by omega)
  · rcases E (37 + j) with ⟨e, q⟩ | ⟨e, q⟩ <;> rw [q]
    · exact (vs j hj).2.2.2.1
    · exact (h6 (by omega) (by omega)).1
  · rcases E (47 + j) with ⟨e, q⟩ | ⟨e, q⟩ <;> rw [q]
    · exact (vs j hj).2.2.2.2.1
    · exact h7 (by omega) (by omega)
  · rcases E (57 + j) with ⟨e, q⟩ | ⟨e, q⟩ <;> rw [q]
    · exact (vs j hj).2.2.2.2.2.1
    · exact h8 (by omega) (by omega)
  · rcases E (67 + j) with ⟨e, q⟩ | ⟨e, q⟩ <;> rw [q]
    · exact (vs j hj).2.2.2.2.2.2.1
    · exact h9 (by omega) (by omega)
  · rcases E (77 + j) with ⟨e, q⟩ | ⟨e, q⟩ <;> rw [q]
    · exact (vs j hj).2.2.2.2.2.2.2.1
    · exact h10 (by omega) (by omega)
  · rcases E (87 + j) with ⟨e, q⟩ | ⟨e, q⟩ <;> rw [q]
    · exact (vs j hj).2.2.2.2.2.2.2.2
    · exact (h11 (by omega) (by omega)).1
  · have ho : stkOK N j ∧ j < 10 := by
      rcases E 100 with ⟨e, q⟩ | ⟨e, q⟩ <;> rw [q] at hj
      · exact ⟨vo j hj, by omega⟩
      · exact ⟨(h15 e.symm).2 j hj, by have := (h15 e.symm).1; omega⟩
    obtain ⟨⟨o1, o2, o3, o4⟩, hj9⟩ := ho
    have e99 : N 99 ≤ upN N k v 99 := by
      rcases E 99 with ⟨e, q⟩ | ⟨e, q⟩ <;> rw [q]
      · exact Nat.le_refl _
      · exact (h14 e.symm).2
    by_cases k6 : k = 6 + j
    · subst k6
      have hj' : j < N 100 := by rwa [upN_ne (by omega)] at hj
      have := (h2 (by omega) (by omega)).2 (by omega)
      rw [show 6 + j - 6 = j by omega] at this
      rw [upN_eq, upN_ne (show 37 + j ≠ 6 + j by omega), upN_ne (show 16 + j ≠ 6 + j by omega), upN_ne (show 99 ≠ 6 + j by omega)]
      exact ⟨this.1, o2, this.2, o4⟩
    · by_cases k37 : k = 37 + j
      · subst k37
        have hj' : j < N 100 := by rwa [upN_ne (by omega)] at hj
        have := (h6 (by omega) (by omega)).2 (by omega)
        rw [show 37 + j - 37 = j by omega] at this
        rw [upN_eq, upN_ne (show 6 + j ≠ 37 + j by omega), upN_ne (show 16 + j ≠ 37 + j by omega), upN_ne (show 99 ≠ 37 + j by omega)]
        exact ⟨o1, this.1, this.2, o4⟩
      · rw [upN_ne (show 6 + j ≠ k by omega), upN_ne (show 37 + j ≠ k by omega)]
        refine ⟨by omega, by omega, o3, ?_⟩
        rcases E (16 + j) with ⟨e, q⟩ | ⟨e, q⟩ <;> rw [q]
        · exact o4
        · have hj' : j < N 100 := by rwa [upN_ne (by omega)] at hj
          exact (h3 (by omega) (by omega)).2 (by omega)
  · have ho : 1 ≤ N (87 + j) ∧ j < 10 := by
      rcases E 101 with ⟨e, q⟩ | ⟨e, q⟩ <;> rw [q] at hj
      · exact ⟨vf j hj, by omega⟩
      · exact ⟨(h16 e.symm).2 j hj, by have := (h16 e.symm).1; omega⟩
    rcases E (87 + j) with ⟨e, q⟩ | ⟨e, q⟩ <;> rw [q]
    · exact ho.1
    · have hj' : j < N 101 := by rwa [upN_ne (by omega)] at hj
      exact (h11 (by omega) (by omega)).2 (by omega)
theorem VK_purse {N : Nat → Nat} (hv : VK N) {k v : Nat} (h : k < 6) (h0 : v ≤ 9999) : VK (upN N k v) := by
  apply VK_up hv <;> intros <;> omega
theorem VK_paid {N : Nat → Nat} (hv : VK N) {k v : Nat} (h : k < 10) (h0 : v ≤ 1) : VK (upN N (26 + k) v) := by
  apply VK_up hv <;> intros <;> omega
theorem VK_day {N : Nat → Nat} (hv : VK N) {v : Nat} (h0 : v ≤ 999) : VK (upN N 36 v) := by
  apply VK_up hv <;> intros <;> omega
theorem VK_sum {N : Nat → Nat} (hv : VK N) {k v : Nat} (h : k < 10) (h0 : v ≤ 999) (h1 : 1 ≤ v) : VK (upN N (16 + k) v) := by
  apply VK_up hv <;> intros <;> omega
theorem VK_hold {N : Nat → Nat} (hv : VK N) {k v : Nat} (h : k < 10) (h0 : v < N 99) (h1 : v ≠ N (37 + k)) : VK (upN N (6 + k) v) := by
  have h6 := hv.2.1
  apply VK_up hv
  case h2 => intro _ _; rw [show 6 + k - 6 = k by omega]; exact ⟨by omega, fun _ => ⟨h0, h1⟩⟩
  all_goals (intros; omega)
