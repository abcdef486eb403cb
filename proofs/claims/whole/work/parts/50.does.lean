def M_died (hi h2 : HI) (x h v : Int) : Prop := (v = 1 ∧ ¬ ((0 ≤ x ∧ x ≤ 999) ∧ (0 ≤ h ∧ h < 64)) ∧ NoC (Z0 hi) h2) ∨ (((0 ≤ x ∧ x ≤ 999) ∧ (0 ≤ h ∧ h < 64)) ∧ ∃ k : Int, Fst (fun z => nO (hi 40) z = x ∧ al (hi 40) z h) (hi 40 0) k ∧ ((k < 0 ∧ v = 2 ∧ NoC (Z0 hi) h2) ∨ (0 ≤ k ∧ EdM (Z0 hi) h2 x k (bO (hi 40) k) h (wO (hi 40) k) v)))
def M_unborn (hi h2 : HI) (x h v : Int) : Prop := (v = 1 ∧ ¬ ((0 ≤ x ∧ x ≤ 999) ∧ (0 ≤ h ∧ h < 64)) ∧ NoC (Z0 hi) h2) ∨ (((0 ≤ x ∧ x ≤ 999) ∧ (0 ≤ h ∧ h < 64)) ∧ ∃ k : Int, Fst (fun z => nO (hi 40) z = x ∧ al (hi 40) z h) (hi 40 0) k ∧ ((k < 0 ∧ v = 2 ∧ NoC (Z0 hi) h2) ∨ (0 ≤ k ∧ EdM (Z0 hi) h2 x k (bO (hi 40) k) (bO (hi 40) k) (wO (hi 40) k) v)))
def M_revived (hi h2 : HI) (x h v : Int) : Prop := (v = 1 ∧ ¬ ((0 ≤ x ∧ x ≤ 999) ∧ (1 ≤ h ∧ h < 64)) ∧ NoC (Z0 hi) h2) ∨ (((0 ≤ x ∧ x ≤ 999) ∧ (1 ≤ h ∧ h < 64)) ∧ ∃ k : Int, Fst (fun z => nO (hi 40) z = x ∧ dO (hi 40) z = h) (hi 40 0) k ∧ ((k < 0 ∧ v = 2 ∧ NoC (Z0 hi) h2) ∨ (0 ≤ k ∧ EdM (Z0 hi) h2 x k (bO (hi 40) k) 64 (wO (hi 40) k) v)))
def M_shifted (hi h2 : HI) (x h y v : Int) : Prop := (v = 1 ∧ ¬ ((0 ≤ x ∧ x ≤ 999) ∧ (0 ≤ h ∧ h < 64) ∧ y ≠ 0 ∧ -64 < y ∧ y < 64) ∧ NoC (Z0 hi) h2) ∨ (((0 ≤ x ∧ x ≤ 999) ∧ (0 ≤ h ∧ h < 64) ∧ y ≠ 0 ∧ -64 < y ∧ y < 64) ∧ ∃ k : Int, Fst (fun z => nO (hi 40) z = x ∧ al (hi 40) z h) (hi 40 0) k ∧ ((k < 0 ∧ v = 2 ∧ NoC (Z0 hi) h2) ∨ (0 ≤ k ∧ ((v = 1 ∧ ¬ ((0 ≤ bO (hi 40) k + y ∧ bO (hi 40) k + y < 64) ∧ (if dO (hi 40) k = 64 then 64 else dO (hi 40) k + y) ≤ 64) ∧ NoC (Z0 hi) h2) ∨ (((0 ≤ bO (hi 40) k + y ∧ bO (hi 40) k + y < 64) ∧ (if dO (hi 40) k = 64 then 64 else dO (hi 40) k + y) ≤ 64) ∧ EdM (Z0 hi) h2 x k (bO (hi 40) k + y) (if dO (hi 40) k = 64 then 64 else dO (hi 40) k + y) (wO (hi 40) k) v)))))
def M_worthed (hi h2 : HI) (x h w v : Int) : Prop := (v = 1 ∧ ¬ ((0 ≤ x ∧ x ≤ 999) ∧ (0 ≤ h ∧ h < 64) ∧ (0 ≤ w ∧ w ≤ 99)) ∧ NoC (Z0 hi) h2) ∨ (((0 ≤ x ∧ x ≤ 999) ∧ (0 ≤ h ∧ h < 64) ∧ (0 ≤ w ∧ w ≤ 99)) ∧ ∃ k : Int, Fst (fun z => nO (hi 40) z = x ∧ al (hi 40) z h) (hi 40 0) k ∧ ((k < 0 ∧ v = 2 ∧ NoC (Z0 hi) h2) ∨ (0 ≤ k ∧ ((v = 3 ∧ bO (hi 40) k < hi 40 1 ∧ NoC (Z0 hi) h2) ∨ (v = 6 ∧ hi 40 1 ≤ bO (hi 40) k ∧ wO (hi 40) k = w ∧ NoC (Z0 hi) h2) ∨ (v = 0 ∧ hi 40 1 ≤ bO (hi 40) k ∧ wO (hi 40) k ≠ w ∧ Pus (Z0 hi) h2 ∧ PutM (hi 40) (hi 40 0) x k (bO (hi 40) k) (dO (hi 40) k) w (h2 40) (hi 40 0) k)))))
def M_lock (hi h2 : HI) (x v : Int) : Prop := (v = -1 ∧ ¬ (0 ≤ x ∧ x ≤ 64) ∧ h2 = Z0 hi) ∨ ((0 ≤ x ∧ x ≤ 64) ∧ v = hi 40 1 ∧ h2 = hput (Z0 hi) 40 (updI (hi 40) 1 x))
def M_undo (hi h2 : HI) (v : Int) : Prop := ((v = -1 ∧ hi 39 6 = 0 ∧ h2 = Z0 hi) ∨ (0 < hi 39 6 ∧ v = hi 39 6 - 1 ∧ h2 39 = updI ((Z0 hi) 39) 6 v ∧ h2 40 = cpyI (hi 42) (hi 40) (166 * v).toNat 0 166)) ∧ h2 42 = hi 42
/-- a line done by the plain form -/
def DoM (hi h2 : HI) (ve n h o w v : Int) : Prop := (ve = 12 ∧ SpM (Z0 hi) h2 n h 64 w v) ∨ (ve = 13 ∧ SpM (Z0 hi) h2 n h o w v) ∨ (ve = 15 ∧ M_died hi h2 n h v) ∨ (ve = 16 ∧ M_unborn hi h2 n h v) ∨ (ve = 17 ∧ M_revived hi h2 n h v) ∨ (ve = 18 ∧ M_shifted hi h2 n h o v) ∨ (ve = 34 ∧ M_worthed hi h2 n h w v) ∨ (ve = 21 ∧ (∃ u, M_lock hi h2 h u ∧ v = (if u = -1 then 1 else 0))) ∨ (ve = 22 ∧ (∃ u, M_undo hi h2 u ∧ v = (if u = -1 then 2 else 0)))
theorem DoM.born {hi h2 : HI} {n h o w v : Int} (q : SpM (Z0 hi) h2 n h 64 w v) : DoM hi h2 12 n h o w v := Or.inl ⟨rfl, q⟩
theorem DoM.span {hi h2 : HI} {n h o w v : Int} (q : SpM (Z0 hi) h2 n h o w v) : DoM hi h2 13 n h o w v := Or.inr (Or.inl ⟨rfl, q⟩)
theorem DoM.died {hi h2 : HI} {n h o w v : Int} (q : M_died hi h2 n h v) : DoM hi h2 15 n h o w v := Or.inr (Or.inr (Or.inl ⟨rfl, q⟩))
theorem DoM.unborn {hi h2 : HI} {n h o w v : Int} (q : M_unborn hi h2 n h v) : DoM hi h2 16 n h o w v := Or.inr (Or.inr (Or.inr (Or.inl ⟨rfl, q⟩)))
theorem DoM.revived {hi h2 : HI} {n h o w v : Int} (q : M_revived hi h2 n h v) : DoM hi h2 17 n h o w v := Or.inr (Or.inr (Or.inr (Or.inr (Or.inl ⟨rfl, q⟩))))
theorem DoM.shifted {hi h2 : HI} {n h o w v : Int} (q : M_shifted hi h2 n h o v) : DoM hi h2 18 n h o w v := Or.inr (Or.inr (Or.inr (Or.inr (Or.inr (Or.inl ⟨rfl, q⟩)))))
theorem DoM.worthed {hi h2 : HI} {n h o w v : Int} (q : M_worthed hi h2 n h w v) : DoM hi h2 34 n h o w v := Or.inr (Or.inr (Or.inr (Or.inr (Or.inr (Or.inr (Or.inl ⟨rfl, q⟩))))))
theorem DoM.lock {hi h2 : HI} {n h o w v : Int} (q : ∃ u, M_lock hi h2 h u ∧ v = (if u = -1 then 1 else 0)) : DoM hi h2 21 n h o w v := Or.inr (Or.inr (Or.inr (Or.inr (Or.inr (Or.inr (Or.inr (Or.inl ⟨rfl, q⟩)))))))
theorem DoM.undo {hi h2 : HI} {n h o w v : Int} (q : ∃ u, M_undo hi h2 u ∧ v = (if u = -1 then 2 else 0)) : DoM hi h2 22 n h o w v := Or.inr (Or.inr (Or.inr (Or.inr (Or.inr (Or.inr (Or.inr (Or.inr (⟨rfl, q⟩))))))))

abbrev kX8_does : Kd := (cX8_does, .code yX8_does cX8_does 5 (some .int) :: wsL_law0, rmL 8, RX8, (some .int), 5)
theorem ct_X8_does : Ct kX8_does yX8_does (fun a hi Q => ∃ k : Int, ∃ ve : Int, ∃ n : Int, ∃ h : Int, ∃ o : Int, ∃ w : Int, a = [AR 40, AI k] ∧ (MI hi ∧ (0 ≤ k ∧ k < 200) ∧ LM (hi 46) (hi 47) k ve n h o w) ∧ ∀ (v : Int) (h2 : HI), (Fr [39, 40, 41, 42] hi h2 ∧ (DoM hi h2 ve n h o w v)) → Q (AI v) h2) := by
  refine Ct.of (ws' := _) (by decide +kernel) rfl rfl ?_
  intro a hi Q hT
  obtain ⟨k, ve, n, h, o, w, rfl, hpre, hQ⟩ := hT
  refine ⟨Nat.le_of_ble_eq_true rfl, ?_⟩
  show Z kX8_does Q 0 [(0, AR 40), (1, AI k)] [] hi
  refine z_aload_n (pc := 0) (x := 40) dX8_does_0 rfl 0 rfl ?_
  refine z_getR (pc := 1) (pl := 39) (f := 19) (ci := 7) (C := RX8) (T := TX8) (N := 33) hu_X8 (by decide) rfl rfl (by decide) rfl (List.mem_cons_of_mem _ (iw5 _ (List.mem_of_getElem? (i := 13) rfl))) rfl dX8_does_1 ?_
  refine z_iconst (pc := 4) (v := 4) dX8_does_4 rfl ?_
  refine z_iload_n (pc := 5) dX8_does_5 rfl 1 rfl ?_
  refine z_imul (pc := 6) dX8_does_6 (fun v1 ev1 => ?_)
  refine z_iald (pc := 7) (pl := 47) (by decide) rfl (by decide) (by decide) (by omega) (by omega) dX8_does_7 (fun v2 ev2 rv2 => ?_)
  have a0 : v2 = lnE (hi 47) k 0 := by rw [ev2]; unfold lnE; congr 1; omega
  refine z_istore_n (pc := 8) (lv' := [(2, AI v2), (0, AR 40), (1, AI k)]) dX8_does_8 rfl (by decide) rfl ?_
  refine z_aload_n (pc := 9) (x := 40) dX8_does_9 rfl 1 rfl ?_
  refine z_getR (pc := 10) (pl := 39) (f := 19) (ci := 7) (C := RX8) (T := TX8) (N := 33) hu_X8 (by decide) rfl rfl (by decide) rfl (List.mem_cons_of_mem _ (iw5 _ (List.mem_of_getElem? (i := 13) rfl))) rfl dX8_does_10 ?_
  refine z_iconst (pc := 13) (v := 4) dX8_does_13 rfl ?_
  refine z_iload_n (pc := 14) dX8_does_14 rfl 2 rfl ?_
  refine z_imul (pc := 15) dX8_does_15 (fun v3 ev3 => ?_)
  refine z_iconst (pc := 16) (v := 1) dX8_does_16 rfl ?_
  refine z_iadd (pc := 17) dX8_does_17 (fun v4 ev4 => ?_)
  refine z_iald (pc := 18) (pl := 47) (by decide) rfl (by decide) (by decide) (by omega) (by omega) dX8_does_18 (fun v5 ev5 rv5 => ?_)
  have a1 : v5 = lnE (hi 47) k 1 := by rw [ev5]; unfold lnE; congr 1; omega
  refine z_istore_n (pc := 19) (lv' := [(3, AI v5), (2, AI v2), (0, AR 40), (1, AI k)]) dX8_does_19 rfl (by decide) rfl ?_
  refine z_aload_n (pc := 20) (x := 40) dX8_does_20 rfl 2 rfl ?_
  refine z_getR (pc := 21) (pl := 39) (f := 19) (ci := 7) (C := RX8) (T := TX8) (N := 33) hu_X8 (by decide) rfl rfl (by decide) rfl (List.mem_cons_of_mem _ (iw5 _ (List.mem_of_getElem? (i := 13) rfl))) rfl dX8_does_21 ?_
  refine z_iconst (pc := 24) (v := 4) dX8_does_24 rfl ?_
  refine z_iload_n (pc := 25) dX8_does_25 rfl 3 rfl ?_
  refine z_imul (pc := 26) dX8_does_26 (fun v6 ev6 => ?_)
  refine z_iconst (pc := 27) (v := 2) dX8_does_27 rfl ?_
  refine z_iadd (pc := 28) dX8_does_28 (fun v7 ev7 => ?_)
  refine z_iald (pc := 29) (pl := 47) (by decide) rfl (by decide) (by decide) (by omega) (by omega) dX8_does_29 (fun v8 ev8 rv8 => ?_)
  have a2 : v8 = lnE (hi 47) k 2 := by rw [ev8]; unfold lnE; congr 1; omega
  refine z_istore (pc := 30) (lv' := [(4, AI v8), (3, AI v5), (2, AI v2), (0, AR 40), (1, AI k)]) dX8_does_30 (by decide) rfl ?_
  refine z_aload_n (pc := 32) (x := 40) dX8_does_32 rfl 3 rfl ?_
  refine z_getR (pc := 33) (pl := 39) (f := 18) (ci := 7) (C := RX8) (T := TX8) (N := 33) hu_X8 (by decide) rfl rfl (by decide) rfl (List.mem_cons_of_mem _ (iw5 _ (List.mem_of_getElem? (i := 12) rfl))) rfl dX8_does_33 ?_
  refine z_iload_n (pc := 36) dX8_does_36 rfl 4 rfl ?_
  refine z_iald (pc := 37) (pl := 46) (by decide) rfl (by decide) (by decide) (by omega) (by omega) dX8_does_37 (fun v9 ev9 rv9 => ?_)
  have g37 := ev9
  refine z_tsw (pc := 38)  (x := v9) (dtgt := 166) (tg := [84, 93, 112, 119, 126, 133, 142, 151]) dX8_does_38 ⟨by omega, by omega⟩ rfl (by decide) ?_ ?_
  · intro c10
    refine z_aload_n (pc := 166) (x := 40) dX8_does_166 rfl 3 rfl ?_
    refine z_callV (pc := 167) (kc := kX8_undo) (n := 0) (pl := 39) (ci := 7) (C := RX8) (As := []) (stk := []) ct_X8_undo (gdV rfl rfl (iw30 _ (List.mem_of_getElem? (i := 22) rfl)) (iw16 _ (List.mem_of_getElem? (i := 7) rfl)) (iw16 _ (List.mem_of_getElem? (i := 8) rfl)) (iw1 _ (List.mem_of_getElem? (i := 5) rfl)) (iw16 _ (List.mem_of_getElem? (i := 9) rfl))) rfl ⟨rfl, rfl⟩ (by decide +kernel) ⟨by decide, by decide⟩ (by decide) rfl rfl dX8_does_167 rfl rfl (Nat.le_of_ble_eq_true rfl) ?_
    refine ⟨rfl, hpre.1, fun v11 h12 eh12 => ?_⟩
    have frh12 : Fr [39, 40, 41, 42] hi h12 := (Fr.call (Fr.rf) eh12.1 (by decide))
    have es := (⟨eh12.2, eh12.1 42 (by decide)⟩ : M_undo hi h12 v11)
    have rs : inR v11 := by rcases es.1 with q | q; rw [q.1]; exact ⟨by decide, by decide⟩; have q4 := hpre.1.2.2; exact ⟨by omega, by omega⟩
    refine z_iconst (pc := 170) (v := (-1)) dX8_does_170 rfl ?_
    refine z_icmp_ne (pc := 171) (tgt := 178) dX8_does_171 (by decide) ⟨by omega, by omega⟩ ⟨by decide, by decide⟩ (fun c13 => ?_) (fun c13 => ?_)
    · refine z_iconst (pc := 178) (v := 0) dX8_does_178 rfl ?_
      refine z_iret (pc := 179) rfl dX8_does_179 ?_
      exact hQ 0 h12 ⟨frh12, by rcases hpre.2.2 with ⟨rfl, g, q0, q1, q2⟩ | ⟨rfl, g, q0, q1, q2, q3⟩ | ⟨rfl, g, q0, q1⟩ | ⟨rfl, g, q0, q1⟩ | ⟨rfl, g, q0, q1⟩ | ⟨rfl, g, q0, q1, q2⟩ | ⟨rfl, g, q0, q1, q2⟩ | ⟨rfl, g, q1⟩ | ⟨rfl, g⟩ <;> first | (exfalso; clear es; omega) | exact DoM.born (by rw [← q0, ← a0, ← q1, ← a1, ← q2, ← a2]; exact es) | exact DoM.span (by rw [← q0, ← a0, ← q1, ← a1, ← q2, ← a2, ← q3, ← a3]; exact es) | exact DoM.died (by rw [← q0, ← a0, ← q1, ← a1]; exact es) | exact DoM.unborn (by rw [← q0, ← a0, ← q1, ← a1]; exact es) | exact DoM.revived (by rw [← q0, ← a0, ← q1, ← a1]; exact es) | exact DoM.shifted (by rw [← q0, ← a0, ← q1, ← a1, ← q2, ← a2]; exact es) | exact DoM.worthed (by rw [← q0, ← a0, ← q1, ← a1, ← q2, ← a2]; exact es) | exact DoM.lock ⟨_, by rw [← q1, ← a0]; exact es, by first | rw [if_pos (by omega)] | rw [if_neg (by omega)]⟩ | exact DoM.undo ⟨_, es, by first | rw [if_pos (by omega)] | rw [if_neg (by omega)]⟩⟩
    · refine z_iconst (pc := 174) (v := 2) dX8_does_174 rfl ?_
      refine z_goto (pc := 175) (tgt := 179) dX8_does_175 (by decide) ?_
      refine z_iret (pc := 179) rfl dX8_does_179 ?_
      exact hQ 2 h12 ⟨frh12, by rcases hpre.2.2 with ⟨rfl, g, q0, q1, q2⟩ | ⟨rfl, g, q0, q1, q2, q3⟩ | ⟨rfl, g, q0, q1⟩ | ⟨rfl, g, q0, q1⟩ | ⟨rfl, g, q0, q1⟩ | ⟨rfl, g, q0, q1, q2⟩ | ⟨rfl, g, q0, q1, q2⟩ | ⟨rfl, g, q1⟩ | ⟨rfl, g⟩ <;> first | (exfalso; clear es; omega) | exact DoM.born (by rw [← q0, ← a0, ← q1, ← a1, ← q2, ← a2]; exact es) | exact DoM.span (by rw [← q0, ← a0, ← q1, ← a1, ← q2, ← a2, ← q3, ← a3]; exact es) | exact DoM.died (by rw [← q0, ← a0, ← q1, ← a1]; exact es) | exact DoM.unborn (by rw [← q0, ← a0, ← q1, ← a1]; exact es) | exact DoM.revived (by rw [← q0, ← a0, ← q1, ← a1]; exact es) | exact DoM.shifted (by rw [← q0, ← a0, ← q1, ← a1, ← q2, ← a2]; exact es) | exact DoM.worthed (by rw [← q0, ← a0, ← q1, ← a1, ← q2, ← a2]; exact es) | exact DoM.lock ⟨_, by rw [← q1, ← a0]; exact es, by first | rw [if_pos (by omega)] | rw [if_neg (by omega)]⟩ | exact DoM.undo ⟨_, es, by first | rw [if_pos (by omega)] | rw [if_neg (by omega)]⟩⟩
  · refine ⟨fun c10 => ?_, fun c10 => ?_, fun c10 => ?_, fun c10 => ?_, fun c10 => ?_, fun c10 => ?_, fun c10 => ?_, fun c10 => ?_, trivial⟩
    · refine z_aload_n (pc := 84) (x := 40) dX8_does_84 rfl 3 rfl ?_
      refine z_iload_n (pc := 85) dX8_does_85 rfl 2 rfl ?_
      refine z_iload_n (pc := 86) dX8_does_86 rfl 1 rfl ?_
      refine z_iload (pc := 87) dX8_does_87 0 rfl ?_
      refine z_callV (pc := 89) (kc := kX8_born) (n := 3) (pl := 39) (ci := 7) (C := RX8) (As := [AI v2, AI v5, AI v8]) (stk := []) ct_X8_born (gdV rfl rfl (iw30 _ (List.mem_of_getElem? (i := 14) rfl)) (iw8 _ (List.mem_of_getElem? (i := 19) rfl)) (iw8 _ (List.mem_of_getElem? (i := 20) rfl)) (iw1 _ (List.mem_of_getElem? (i := 5) rfl)) (iw8 _ (List.mem_of_getElem? (i := 21) rfl))) rfl ⟨rfl, rfl⟩ (by decide +kernel) ⟨by decide, by decide⟩ (by decide) rfl rfl dX8_does_89 rfl rfl (Nat.le_of_ble_eq_true rfl) ?_
      refine ⟨_, _, _, rfl, ⟨hpre.1, ⟨by omega, by omega⟩, ⟨by omega, by omega⟩, ⟨by omega, by omega⟩⟩, fun v14 h15 eh15 => ?_⟩
      have frh15 : Fr [39, 40, 41, 42] hi h15 := (Fr.call (Fr.rf) eh15.1 (by decide))
      have es := eh15.2
      refine z_iret (pc := 92) rfl dX8_does_92 ?_
      exact hQ v14 h15 ⟨frh15, by rcases hpre.2.2 with ⟨rfl, g, q0, q1, q2⟩ | ⟨rfl, g, q0, q1, q2, q3⟩ | ⟨rfl, g, q0, q1⟩ | ⟨rfl, g, q0, q1⟩ | ⟨rfl, g, q0, q1⟩ | ⟨rfl, g, q0, q1, q2⟩ | ⟨rfl, g, q0, q1, q2⟩ | ⟨rfl, g, q1⟩ | ⟨rfl, g⟩ <;> first | (exfalso; clear es; omega) | exact DoM.born (by rw [← q0, ← a0, ← q1, ← a1, ← q2, ← a2]; exact es) | exact DoM.span (by rw [← q0, ← a0, ← q1, ← a1, ← q2, ← a2, ← q3, ← a3]; exact es) | exact DoM.died (by rw [← q0, ← a0, ← q1, ← a1]; exact es) | exact DoM.unborn (by rw [← q0, ← a0, ← q1, ← a1]; exact es) | exact DoM.revived (by rw [← q0, ← a0, ← q1, ← a1]; exact es) | exact DoM.shifted (by rw [← q0, ← a0, ← q1, ← a1, ← q2, ← a2]; exact es) | exact DoM.worthed (by rw [← q0, ← a0, ← q1, ← a1, ← q2, ← a2]; exact es) | exact DoM.lock ⟨_, by rw [← q1, ← a0]; exact es, by first | rw [if_pos (by omega)] | rw [if_neg (by omega)]⟩ | exact DoM.undo ⟨_, es, by first | rw [if_pos (by omega)] | rw [if_neg (by omega)]⟩⟩
    · refine z_aload_n (pc := 93) (x := 40) dX8_does_93 rfl 3 rfl ?_
      refine z_iload_n (pc := 94) dX8_does_94 rfl 2 rfl ?_
      refine z_iload_n (pc := 95) dX8_does_95 rfl 1 rfl ?_
      refine z_iload (pc := 96) dX8_does_96 0 rfl ?_
      refine z_aload_n (pc := 98) (x := 40) dX8_does_98 rfl 3 rfl ?_
      refine z_getR (pc := 99) (pl := 39) (f := 19) (ci := 7) (C := RX8) (T := TX8) (N := 33) hu_X8 (by decide) rfl rfl (by decide) rfl (List.mem_cons_of_mem _ (iw5 _ (List.mem_of_getElem? (i := 13) rfl))) rfl dX8_does_99 ?_
      refine z_iconst (pc := 102) (v := 4) dX8_does_102 rfl ?_
      refine z_iload_n (pc := 103) dX8_does_103 rfl 4 rfl ?_
      refine z_imul (pc := 104) dX8_does_104 (fun v16 ev16 => ?_)
      refine z_iconst (pc := 105) (v := 3) dX8_does_105 rfl ?_
      refine z_iadd (pc := 106) dX8_does_106 (fun v17 ev17 => ?_)
      refine z_iald (pc := 107) (pl := 47) (by decide) rfl (by decide) (by decide) (by omega) (by omega) dX8_does_107 (fun v18 ev18 rv18 => ?_)
      have a3 : v18 = lnE (hi 47) k 3 := by rw [ev18]; unfold lnE; congr 1; omega
      refine z_callV (pc := 108) (kc := kX8_span) (n := 4) (pl := 39) (ci := 7) (C := RX8) (As := [AI v2, AI v5, AI v8, AI v18]) (stk := []) ct_X8_span (gdV rfl rfl (iw30 _ (List.mem_of_getElem? (i := 15) rfl)) (iw11 _ (List.mem_of_getElem? (i := 11) rfl)) (iw11 _ (List.mem_of_getElem? (i := 12) rfl)) (iw1 _ (List.mem_of_getElem? (i := 5) rfl)) (iw11 _ (List.mem_of_getElem? (i := 13) rfl))) rfl ⟨rfl, rfl⟩ (by decide +kernel) ⟨by decide, by decide⟩ (by decide) rfl rfl dX8_does_108 rfl rfl (Nat.le_of_ble_eq_true rfl) ?_
      refine ⟨_, _, _, _, rfl, ⟨hpre.1, ⟨by omega, by omega⟩, ⟨by omega, by omega⟩, ⟨by omega, by omega⟩, ⟨by omega, by omega⟩⟩, fun v19 h20 eh20 => ?_⟩
      have frh20 : Fr [39, 40, 41, 42] hi h20 := (Fr.call (Fr.rf) eh20.1 (by decide))
      have es := eh20.2
      refine z_iret (pc := 111) rfl dX8_does_111 ?_
      exact hQ v19 h20 ⟨frh20, by rcases hpre.2.2 with ⟨rfl, g, q0, q1, q2⟩ | ⟨rfl, g, q0, q1, q2, q3⟩ | ⟨rfl, g, q0, q1⟩ | ⟨rfl, g, q0, q1⟩ | ⟨rfl, g, q0, q1⟩ | ⟨rfl, g, q0, q1, q2⟩ | ⟨rfl, g, q0, q1, q2⟩ | ⟨rfl, g, q1⟩ | ⟨rfl, g⟩ <;> first | (exfalso; clear es; omega) | exact DoM.born (by rw [← q0, ← a0, ← q1, ← a1, ← q2, ← a2]; exact es) | exact DoM.span (by rw [← q0, ← a0, ← q1, ← a1, ← q2, ← a2, ← q3, ← a3]; exact es) | exact DoM.died (by rw [← q0, ← a0, ← q1, ← a1]; exact es) | exact DoM.unborn (by rw [← q0, ← a0, ← q1, ← a1]; exact es) | exact DoM.revived (by rw [← q0, ← a0, ← q1, ← a1]; exact es) | exact DoM.shifted (by rw [← q0, ← a0, ← q1, ← a1, ← q2, ← a2]; exact es) | exact DoM.worthed (by rw [← q0, ← a0, ← q1, ← a1, ← q2, ← a2]; exact es) | exact DoM.lock ⟨_, by rw [← q1, ← a0]; exact es, by first | rw [if_pos (by omega)] | rw [if_neg (by omega)]⟩ | exact DoM.undo ⟨_, es, by first | rw [if_pos (by omega)] | rw [if_neg (by omega)]⟩⟩
    · refine z_aload_n (pc := 112) (x := 40) dX8_does_112 rfl 3 rfl ?_
      refine z_iload_n (pc := 113) dX8_does_113 rfl 2 rfl ?_
      refine z_iload_n (pc := 114) dX8_does_114 rfl 1 rfl ?_
      refine z_callV (pc := 115) (kc := kX8_died) (n := 2) (pl := 39) (ci := 7) (C := RX8) (As := [AI v2, AI v5]) (stk := []) ct_X8_died (gdV rfl rfl (iw30 _ (List.mem_of_getElem? (i := 16) rfl)) (iw12 _ (List.mem_of_getElem? (i := 17) rfl)) (iw12 _ (List.mem_of_getElem? (i := 18) rfl)) (iw1 _ (List.mem_of_getElem? (i := 5) rfl)) (iw12 _ (List.mem_of_getElem? (i := 19) rfl))) rfl ⟨rfl, rfl⟩ (by decide +kernel) ⟨by decide, by decide⟩ (by decide) rfl rfl dX8_does_115 rfl rfl (Nat.le_of_ble_eq_true rfl) ?_
      refine ⟨_, _, rfl, ⟨hpre.1, ⟨by omega, by omega⟩, ⟨by omega, by omega⟩⟩, fun v21 h22 eh22 => ?_⟩
      have frh22 : Fr [39, 40, 41, 42] hi h22 := (Fr.call (Fr.rf) eh22.1 (by decide))
      have es := eh22.2
      refine z_iret (pc := 118) rfl dX8_does_118 ?_
      exact hQ v21 h22 ⟨frh22, by rcases hpre.2.2 with ⟨rfl, g, q0, q1, q2⟩ | ⟨rfl, g, q0, q1, q2, q3⟩ | ⟨rfl, g, q0, q1⟩ | ⟨rfl, g, q0, q1⟩ | ⟨rfl, g, q0, q1⟩ | ⟨rfl, g, q0, q1, q2⟩ | ⟨rfl, g, q0, q1, q2⟩ | ⟨rfl, g, q1⟩ | ⟨rfl, g⟩ <;> first | (exfalso; clear es; omega) | exact DoM.born (by rw [← q0, ← a0, ← q1, ← a1, ← q2, ← a2]; exact es) | exact DoM.span (by rw [← q0, ← a0, ← q1, ← a1, ← q2, ← a2, ← q3, ← a3]; exact es) | exact DoM.died (by rw [← q0, ← a0, ← q1, ← a1]; exact es) | exact DoM.unborn (by rw [← q0, ← a0, ← q1, ← a1]; exact es) | exact DoM.revived (by rw [← q0, ← a0, ← q1, ← a1]; exact es) | exact DoM.shifted (by rw [← q0, ← a0, ← q1, ← a1, ← q2, ← a2]; exact es) | exact DoM.worthed (by rw [← q0, ← a0, ← q1, ← a1, ← q2, ← a2]; exact es) | exact DoM.lock ⟨_, by rw [← q1, ← a0]; exact es, by first | rw [if_pos (by omega)] | rw [if_neg (by omega)]⟩ | exact DoM.undo ⟨_, es, by first | rw [if_pos (by omega)] | rw [if_neg (by omega)]⟩⟩
    · refine z_aload_n (pc := 119) (x := 40) dX8_does_119 rfl 3 rfl ?_
      refine z_iload_n (pc := 120) dX8_does_120 rfl 2 rfl ?_
      refine z_iload_n (pc := 121) dX8_does_121 rfl 1 rfl ?_
      refine z_callV (pc := 122) (kc := kX8_unborn) (n := 2) (pl := 39) (ci := 7) (C := RX8) (As := [AI v2, AI v5]) (stk := []) ct_X8_unborn (gdV rfl rfl (iw30 _ (List.mem_of_getElem? (i := 17) rfl)) (iw13 _ (List.mem_of_getElem? (i := 13) rfl)) (iw13 _ (List.mem_of_getElem? (i := 14) rfl)) (iw1 _ (List.mem_of_getElem? (i := 5) rfl)) (iw13 _ (List.mem_of_getElem? (i := 15) rfl))) rfl ⟨rfl, rfl⟩ (by decide +kernel) ⟨by decide, by decide⟩ (by decide) rfl rfl dX8_does_122 rfl rfl (Nat.le_of_ble_eq_true rfl) ?_
      refine ⟨_, _, rfl, ⟨hpre.1, ⟨by omega, by omega⟩, ⟨by omega, by omega⟩⟩, fun v23 h24 eh24 => ?_⟩
      have frh24 : Fr [39, 40, 41, 42] hi h24 := (Fr.call (Fr.rf) eh24.1 (by decide))
      have es := eh24.2
      refine z_iret (pc := 125) rfl dX8_does_125 ?_
      exact hQ v23 h24 ⟨frh24, by rcases hpre.2.2 with ⟨rfl, g, q0, q1, q2⟩ | ⟨rfl, g, q0, q1, q2, q3⟩ | ⟨rfl, g, q0, q1⟩ | ⟨rfl, g, q0, q1⟩ | ⟨rfl, g, q0, q1⟩ | ⟨rfl, g, q0, q1, q2⟩ | ⟨rfl, g, q0, q1, q2⟩ | ⟨rfl, g, q1⟩ | ⟨rfl, g⟩ <;> first | (exfalso; clear es; omega) | exact DoM.born (by rw [← q0, ← a0, ← q1, ← a1, ← q2, ← a2]; exact es) | exact DoM.span (by rw [← q0, ← a0, ← q1, ← a1, ← q2, ← a2, ← q3, ← a3]; exact es) | exact DoM.died (by rw [← q0, ← a0, ← q1, ← a1]; exact es) | exact DoM.unborn (by rw [← q0, ← a0, ← q1, ← a1]; exact es) | exact DoM.revived (by rw [← q0, ← a0, ← q1, ← a1]; exact es) | exact DoM.shifted (by rw [← q0, ← a0, ← q1, ← a1, ← q2, ← a2]; exact es) | exact DoM.worthed (by rw [← q0, ← a0, ← q1, ← a1, ← q2, ← a2]; exact es) | exact DoM.lock ⟨_, by rw [← q1, ← a0]; exact es, by first | rw [if_pos (by omega)] | rw [if_neg (by omega)]⟩ | exact DoM.undo ⟨_, es, by first | rw [if_pos (by omega)] | rw [if_neg (by omega)]⟩⟩
    · refine z_aload_n (pc := 126) (x := 40) dX8_does_126 rfl 3 rfl ?_
      refine z_iload_n (pc := 127) dX8_does_127 rfl 2 rfl ?_
      refine z_iload_n (pc := 128) dX8_does_128 rfl 1 rfl ?_
      refine z_callV (pc := 129) (kc := kX8_revived) (n := 2) (pl := 39) (ci := 7) (C := RX8) (As := [AI v2, AI v5]) (stk := []) ct_X8_revived (gdV rfl rfl (iw30 _ (List.mem_of_getElem? (i := 18) rfl)) (iw14 _ (List.mem_of_getElem? (i := 1) rfl)) (iw14 _ (List.mem_of_getElem? (i := 2) rfl)) (iw1 _ (List.mem_of_getElem? (i := 5) rfl)) (iw14 _ (List.mem_of_getElem? (i := 3) rfl))) rfl ⟨rfl, rfl⟩ (by decide +kernel) ⟨by decide, by decide⟩ (by decide) rfl rfl dX8_does_129 rfl rfl (Nat.le_of_ble_eq_true rfl) ?_
      refine ⟨_, _, rfl, ⟨hpre.1, ⟨by omega, by omega⟩, ⟨by omega, by omega⟩⟩, fun v25 h26 eh26 => ?_⟩
      have frh26 : Fr [39, 40, 41, 42] hi h26 := (Fr.call (Fr.rf) eh26.1 (by decide))
      have es := eh26.2
      refine z_iret (pc := 132) rfl dX8_does_132 ?_
      exact hQ v25 h26 ⟨frh26, by rcases hpre.2.2 with ⟨rfl, g, q0, q1, q2⟩ | ⟨rfl, g, q0, q1, q2, q3⟩ | ⟨rfl, g, q0, q1⟩ | ⟨rfl, g, q0, q1⟩ | ⟨rfl, g, q0, q1⟩ | ⟨rfl, g, q0, q1, q2⟩ | ⟨rfl, g, q0, q1, q2⟩ | ⟨rfl, g, q1⟩ | ⟨rfl, g⟩ <;> first | (exfalso; clear es; omega) | exact DoM.born (by rw [← q0, ← a0, ← q1, ← a1, ← q2, ← a2]; exact es) | exact DoM.span (by rw [← q0, ← a0, ← q1, ← a1, ← q2, ← a2, ← q3, ← a3]; exact es) | exact DoM.died (by rw [← q0, ← a0, ← q1, ← a1]; exact es) | exact DoM.unborn (by rw [← q0, ← a0, ← q1, ← a1]; exact es) | exact DoM.revived (by rw [← q0, ← a0, ← q1, ← a1]; exact es) | exact DoM.shifted (by rw [← q0, ← a0, ← q1, ← a1, ← q2, ← a2]; exact es) | exact DoM.worthed (by rw [← q0, ← a0, ← q1, ← a1, ← q2, ← a2]; exact es) | exact DoM.lock ⟨_, by rw [← q1, ← a0]; exact es, by first | rw [if_pos (by omega)] | rw [if_neg (by omega)]⟩ | exact DoM.undo ⟨_, es, by first | rw [if_pos (by omega)] | rw [if_neg (by omega)]⟩⟩
    · refine z_aload_n (pc := 133) (x := 40) dX8_does_133 rfl 3 rfl ?_
      refine z_iload_n (pc := 134) dX8_does_134 rfl 2 rfl ?_
      refine z_iload_n (pc := 135) dX8_does_135 rfl 1 rfl ?_
      refine z_iload (pc := 136) dX8_does_136 0 rfl ?_
      refine z_callV (pc := 138) (kc := kX8_shifted) (n := 3) (pl := 39) (ci := 7) (C := RX8) (As := [AI v2, AI v5, AI v8]) (stk := []) ct_X8_shifted (gdV rfl rfl (iw30 _ (List.mem_of_getElem? (i := 19) rfl)) (iw14 _ (List.mem_of_getElem? (i := 10) rfl)) (iw14 _ (List.mem_of_getElem? (i := 11) rfl)) (iw1 _ (List.mem_of_getElem? (i := 5) rfl)) (iw14 _ (List.mem_of_getElem? (i := 12) rfl))) rfl ⟨rfl, rfl⟩ (by decide +kernel) ⟨by decide, by decide⟩ (by decide) rfl rfl dX8_does_138 rfl rfl (Nat.le_of_ble_eq_true rfl) ?_
      refine ⟨_, _, _, rfl, ⟨hpre.1, ⟨by omega, by omega⟩, ⟨by omega, by omega⟩, ⟨by omega, by omega⟩⟩, fun v27 h28 eh28 => ?_⟩
      have frh28 : Fr [39, 40, 41, 42] hi h28 := (Fr.call (Fr.rf) eh28.1 (by decide))
      have es := eh28.2
      refine z_iret (pc := 141) rfl dX8_does_141 ?_
      exact hQ v27 h28 ⟨frh28, by rcases hpre.2.2 with ⟨rfl, g, q0, q1, q2⟩ | ⟨rfl, g, q0, q1, q2, q3⟩ | ⟨rfl, g, q0, q1⟩ | ⟨rfl, g, q0, q1⟩ | ⟨rfl, g, q0, q1⟩ | ⟨rfl, g, q0, q1, q2⟩ | ⟨rfl, g, q0, q1, q2⟩ | ⟨rfl, g, q1⟩ | ⟨rfl, g⟩ <;> first | (exfalso; clear es; omega) | exact DoM.born (by rw [← q0, ← a0, ← q1, ← a1, ← q2, ← a2]; exact es) | exact DoM.span (by rw [← q0, ← a0, ← q1, ← a1, ← q2, ← a2, ← q3, ← a3]; exact es) | exact DoM.died (by rw [← q0, ← a0, ← q1, ← a1]; exact es) | exact DoM.unborn (by rw [← q0, ← a0, ← q1, ← a1]; exact es) | exact DoM.revived (by rw [← q0, ← a0, ← q1, ← a1]; exact es) | exact DoM.shifted (by rw [← q0, ← a0, ← q1, ← a1, ← q2, ← a2]; exact es) | exact DoM.worthed (by rw [← q0, ← a0, ← q1, ← a1, ← q2, ← a2]; exact es) | exact DoM.lock ⟨_, by rw [← q1, ← a0]; exact es, by first | rw [if_pos (by omega)] | rw [if_neg (by omega)]⟩ | exact DoM.undo ⟨_, es, by first | rw [if_pos (by omega)] | rw [if_neg (by omega)]⟩⟩
    · refine z_aload_n (pc := 142) (x := 40) dX8_does_142 rfl 3 rfl ?_
      refine z_iload_n (pc := 143) dX8_does_143 rfl 2 rfl ?_
      refine z_iload_n (pc := 144) dX8_does_144 rfl 1 rfl ?_
      refine z_iload (pc := 145) dX8_does_145 0 rfl ?_
      refine z_callV (pc := 147) (kc := kX8_worthed) (n := 3) (pl := 39) (ci := 7) (C := RX8) (As := [AI v2, AI v5, AI v8]) (stk := []) ct_X8_worthed (gdV rfl rfl (iw30 _ (List.mem_of_getElem? (i := 20) rfl)) (iw14 _ (List.mem_of_getElem? (i := 23) rfl)) (iw15 _ (List.mem_of_getElem? (i := 0) rfl)) (iw1 _ (List.mem_of_getElem? (i := 5) rfl)) (iw15 _ (List.mem_of_getElem? (i := 1) rfl))) rfl ⟨rfl, rfl⟩ (by decide +kernel) ⟨by decide, by decide⟩ (by decide) rfl rfl dX8_does_147 rfl rfl (Nat.le_of_ble_eq_true rfl) ?_
      refine ⟨_, _, _, rfl, ⟨hpre.1, ⟨by omega, by omega⟩, ⟨by omega, by omega⟩, ⟨by omega, by omega⟩⟩, fun v29 h30 eh30 => ?_⟩
      have frh30 : Fr [39, 40, 41, 42] hi h30 := (Fr.call (Fr.rf) eh30.1 (by decide))
      have es := eh30.2
      refine z_iret (pc := 150) rfl dX8_does_150 ?_
      exact hQ v29 h30 ⟨frh30, by rcases hpre.2.2 with ⟨rfl, g, q0, q1, q2⟩ | ⟨rfl, g, q0, q1, q2, q3⟩ | ⟨rfl, g, q0, q1⟩ | ⟨rfl, g, q0, q1⟩ | ⟨rfl, g, q0, q1⟩ | ⟨rfl, g, q0, q1, q2⟩ | ⟨rfl, g, q0, q1, q2⟩ | ⟨rfl, g, q1⟩ | ⟨rfl, g⟩ <;> first | (exfalso; clear es; omega) | exact DoM.born (by rw [← q0, ← a0, ← q1, ← a1, ← q2, ← a2]; exact es) | exact DoM.span (by rw [← q0, ← a0, ← q1, ← a1, ← q2, ← a2, ← q3, ← a3]; exact es) | exact DoM.died (by rw [← q0, ← a0, ← q1, ← a1]; exact es) | exact DoM.unborn (by rw [← q0, ← a0, ← q1, ← a1]; exact es) | exact DoM.revived (by rw [← q0, ← a0, ← q1, ← a1]; exact es) | exact DoM.shifted (by rw [← q0, ← a0, ← q1, ← a1, ← q2, ← a2]; exact es) | exact DoM.worthed (by rw [← q0, ← a0, ← q1, ← a1, ← q2, ← a2]; exact es) | exact DoM.lock ⟨_, by rw [← q1, ← a0]; exact es, by first | rw [if_pos (by omega)] | rw [if_neg (by omega)]⟩ | exact DoM.undo ⟨_, es, by first | rw [if_pos (by omega)] | rw [if_neg (by omega)]⟩⟩
    · refine z_aload_n (pc := 151) (x := 40) dX8_does_151 rfl 3 rfl ?_
      refine z_iload_n (pc := 152) dX8_does_152 rfl 2 rfl ?_
      refine z_callV (pc := 153) (kc := kX8_lock) (n := 1) (pl := 39) (ci := 7) (C := RX8) (As := [AI v2]) (stk := []) ct_X8_lock (gdV rfl rfl (iw30 _ (List.mem_of_getElem? (i := 21) rfl)) (iw15 _ (List.mem_of_getElem? (i := 11) rfl)) (iw15 _ (List.mem_of_getElem? (i := 12) rfl)) (iw1 _ (List.mem_of_getElem? (i := 5) rfl)) (iw15 _ (List.mem_of_getElem? (i := 13) rfl))) rfl ⟨rfl, rfl⟩ (by decide +kernel) ⟨by decide, by decide⟩ (by decide) rfl rfl dX8_does_153 rfl rfl (Nat.le_of_ble_eq_true rfl) ?_
      refine ⟨_, rfl, ⟨hpre.1, ⟨by omega, by omega⟩⟩, fun v31 h32 eh32 => ?_⟩
      have frh32 : Fr [39, 40, 41, 42] hi h32 := (Fr.call (Fr.rf) eh32.1 (by decide))
      have es := eh32.2
      have rs : inR v31 := by rcases es with q | q; rw [q.1]; exact ⟨by decide, by decide⟩; have q4 := hpre.1.2.1; exact ⟨by omega, by omega⟩
      refine z_iconst (pc := 156) (v := (-1)) dX8_does_156 rfl ?_
      refine z_icmp_ne (pc := 157) (tgt := 164) dX8_does_157 (by decide) ⟨by omega, by omega⟩ ⟨by decide, by decide⟩ (fun c33 => ?_) (fun c33 => ?_)
      · refine z_iconst (pc := 164) (v := 0) dX8_does_164 rfl ?_
        refine z_iret (pc := 165) rfl dX8_does_165 ?_
        exact hQ 0 h32 ⟨frh32, by rcases hpre.2.2 with ⟨rfl, g, q0, q1, q2⟩ | ⟨rfl, g, q0, q1, q2, q3⟩ | ⟨rfl, g, q0, q1⟩ | ⟨rfl, g, q0, q1⟩ | ⟨rfl, g, q0, q1⟩ | ⟨rfl, g, q0, q1, q2⟩ | ⟨rfl, g, q0, q1, q2⟩ | ⟨rfl, g, q1⟩ | ⟨rfl, g⟩ <;> first | (exfalso; clear es; omega) | exact DoM.born (by rw [← q0, ← a0, ← q1, ← a1, ← q2, ← a2]; exact es) | exact DoM.span (by rw [← q0, ← a0, ← q1, ← a1, ← q2, ← a2, ← q3, ← a3]; exact es) | exact DoM.died (by rw [← q0, ← a0, ← q1, ← a1]; exact es) | exact DoM.unborn (by rw [← q0, ← a0, ← q1, ← a1]; exact es) | exact DoM.revived (by rw [← q0, ← a0, ← q1, ← a1]; exact es) | exact DoM.shifted (by rw [← q0, ← a0, ← q1, ← a1, ← q2, ← a2]; exact es) | exact DoM.worthed (by rw [← q0, ← a0, ← q1, ← a1, ← q2, ← a2]; exact es) | exact DoM.lock ⟨_, by rw [← q1, ← a0]; exact es, by first | rw [if_pos (by omega)] | rw [if_neg (by omega)]⟩ | exact DoM.undo ⟨_, es, by first | rw [if_pos (by omega)] | rw [if_neg (by omega)]⟩⟩
      · refine z_iconst (pc := 160) (v := 1) dX8_does_160 rfl ?_
        refine z_goto (pc := 161) (tgt := 165) dX8_does_161 (by decide) ?_
        refine z_iret (pc := 165) rfl dX8_does_165 ?_
        exact hQ 1 h32 ⟨frh32, by rcases hpre.2.2 with ⟨rfl, g, q0, q1, q2⟩ | ⟨rfl, g, q0, q1, q2, q3⟩ | ⟨rfl, g, q0, q1⟩ | ⟨rfl, g, q0, q1⟩ | ⟨rfl, g, q0, q1⟩ | ⟨rfl, g, q0, q1, q2⟩ | ⟨rfl, g, q0, q1, q2⟩ | ⟨rfl, g, q1⟩ | ⟨rfl, g⟩ <;> first | (exfalso; clear es; omega) | exact DoM.born (by rw [← q0, ← a0, ← q1, ← a1, ← q2, ← a2]; exact es) | exact DoM.span (by rw [← q0, ← a0, ← q1, ← a1, ← q2, ← a2, ← q3, ← a3]; exact es) | exact DoM.died (by rw [← q0, ← a0, ← q1, ← a1]; exact es) | exact DoM.unborn (by rw [← q0, ← a0, ← q1, ← a1]; exact es) | exact DoM.revived (by rw [← q0, ← a0, ← q1, ← a1]; exact es) | exact DoM.shifted (by rw [← q0, ← a0, ← q1, ← a1, ← q2, ← a2]; exact es) | exact DoM.worthed (by rw [← q0, ← a0, ← q1, ← a1, ← q2, ← a2]; exact es) | exact DoM.lock ⟨_, by rw [← q1, ← a0]; exact es, by first | rw [if_pos (by omega)] | rw [if_neg (by omega)]⟩ | exact DoM.undo ⟨_, es, by first | rw [if_pos (by omega)] | rw [if_neg (by omega)]⟩⟩
