section ZR2
variable {k : Kd} {post : AV → HI → Prop} {pc : Nat} {lv : List (Nat × AV)} {stk : List AV} {hi : HI}
theorem z_getSV {z idx : Nat} (h0 : z < 46) (hlink : Cond.fieldLink k.2.2.2.1 idx "java/lang/String" "value" "[B" ∈ k.2.1) (hd : decode k.1 pc = .ok (.getfield idx, 3)) (kk : Z k post (pc + 3) lv (AR (301 + z) :: stk) hi) : Z k post pc lv (AR (201 + z) :: stk) hi := by
  intro l p e s m args below meth c D ad cy A H locs ls hc
  obtain ⟨hx, hb, hr, hml, hown, hlk, hts, hA, hst, hld, hK, hP, hD, hS, hRG, hl⟩ := id hc
  have h := kk l p e s m args below meth c D ad cy A H locs ls hc
  rw [show 301 + z = (300 + z) + 1 by omega] at h
  rw [show 201 + z = (200 + z) + 1 by omega]
  exact vk_getf hx hb (hst.2.2.1 z h0).2.2.1 hS hown (hts _ hlink) (fun _ h => h) hd h
theorem z_getSC {z idx : Nat} (h0 : z < 46) (hlink : Cond.fieldLink k.2.2.2.1 idx "java/lang/String" "coder" "B" ∈ k.2.1) (hd : decode k.1 pc = .ok (.getfield idx, 3)) (kk : Z k post (pc + 3) lv (AI 0 :: stk) hi) : Z k post pc lv (AR (201 + z) :: stk) hi := by
  intro l p e s m args below meth c D ad cy A H locs ls hc
  obtain ⟨hx, hb, hr, hml, hown, hlk, hts, hA, hst, hld, hK, hP, hD, hS, hRG, hl⟩ := id hc
  have h := kk l p e s m args below meth c D ad cy A H locs ls hc
  simp only [List.map_cons, cv, iI_0] at h
  rw [show 201 + z = (200 + z) + 1 by omega]
  exact vk_getf hx hb (hst.2.2.1 z h0).2.1 hS hown (hts _ hlink) (fun _ h => h) hd h
theorem z_lenSB {z : Nat} (h0 : z < 46) (hd : decode k.1 pc = .ok (.arraylength, 1)) (kk : ∀ v : Int, v = ((sgB.getD z []).length : Nat) → Z k post (pc + 1) lv (AI v :: stk) hi) : Z k post pc lv (AR (301 + z) :: stk) hi := by
  intro l p e s m args below meth c D ad cy A H locs ls hc
  obtain ⟨hx, hb, hr, hml, hown, hlk, hts, hA, hst, hld, hK, hP, hD, hS, hRG, hl⟩ := id hc
  have h := kk _ rfl l p e s m args below meth c D ad cy A H locs ls hc
  rw [show 301 + z = (300 + z) + 1 by omega]
  exact va_tlen (v := iI ((sgB.getD z []).length : Nat)) hx hb (hst.2.2.1 z h0).2.2.2 hS (by unfold iI; exact Int32.ofInt_eq_ofNat.symm) hd h
theorem z_baldSB {z : Nat} {i : Int} (h0 : z < 46) (hn : (sgB.getD z []).length < 2147483648) (h1 : 0 ≤ i) (h2 : i < (sgB.getD z []).length) (hd : decode k.1 pc = .ok (.baload, 1)) (kk : ∀ v : Int, v = (sgB.getD z []).getD i.toNat 0 → Z k post (pc + 1) lv (AI v :: stk) hi) : Z k post pc lv (AI i :: AR (301 + z) :: stk) hi := by
  intro l p e s m args below meth c D ad cy A H locs ls hc
  obtain ⟨hx, hb, hr, hml, hown, hlk, hts, hA, hst, hld, hK, hP, hD, hS, hRG, hl⟩ := id hc
  obtain ⟨g1, g2⟩ := iI_in h1 h2 hn
  have h := kk _ rfl l p e s m args below meth c D ad cy A H locs ls hc
  rw [show 301 + z = (300 + z) + 1 by omega]
  exact va_tb (v := .int (iI ((sgB.getD z []).getD i.toNat 0))) hx hb (hst.2.2.1 z h0).2.2.2 hS g1 (by rw [g2]) hd h
theorem z_getstC {idx : Nat} (hlink : Cond.fieldLink k.2.2.2.1 idx "java/lang/String" "COMPACT_STRINGS" "Z" ∈ k.2.1) (hd : decode k.1 pc = .ok (.getstatic idx, 3)) (kk : Z k post (pc + 3) lv (AI 1 :: stk) hi) : Z k post pc lv stk hi := by
  intro l p e s m args below meth c D ad cy A H locs ls hc
  obtain ⟨hx, hb, hr, hml, hown, hlk, hts, hA, hst, hld, hK, hP, hD, hS, hRG, hl⟩ := id hc
  have h := kk l p e s m args below meth c D ad cy A H locs ls hc
  simp only [List.map_cons, cv, show iI 1 = 1 by decide +kernel] at h
  exact va_gets hx hb hst.2.2.2.2.2.1 hS hown (hts _ hlink) (fun _ h => h) hd h
theorem z_getstF {idx : Nat} (hlink : Cond.fieldLink k.2.2.2.1 idx "jdk/internal/util/Preconditions" "SIOOBE_FORMATTER" "Ljava/util/function/BiFunction;" ∈ k.2.1) (hd : decode k.1 pc = .ok (.getstatic idx, 3)) (kk : ∀ n : Nat, Z k post (pc + 3) lv (AR n :: stk) hi) : Z k post pc lv stk hi := by
  intro l p e s m args below meth c D ad cy A H locs ls hc
  obtain ⟨hx, hb, hr, hml, hown, hlk, hts, hA, hst, hld, hK, hP, hD, hS, hRG, hl⟩ := id hc
  rcases hst.2.2.2.2.2.2 with q | q
  · exact va_gets hx hb q hS hown (hts _ hlink) (fun _ h => h) hd (kk 0 l p e s m args below meth c D ad cy A H locs ls hc)
  · exact va_gets hx hb q hS hown (hts _ hlink) (fun _ h => h) hd (kk 403 l p e s m args below meth c D ad cy A H locs ls hc)
theorem i2c_c : ∀ x : Fin 256, ((iI x.val).toUInt32 % 65536).toInt32 = iI x.val := by decide +kernel
theorem z_i2c {x : Int} (h0 : 0 ≤ x ∧ x < 256) (hd : decode k.1 pc = .ok (.i2c, 1)) (kk : Z k post (pc + 1) lv (AI x :: stk) hi) : Z k post pc lv (AI x :: stk) hi := by
  intro l p e s m args below meth c D ad cy A H locs ls hc
  have q := i2c_c ⟨x.toNat, by omega⟩
  rw [show (((⟨x.toNat, by omega⟩ : Fin 256).val : Nat) : Int) = x by show ((x.toNat : Nat) : Int) = x; omega] at q
  exact lv_i2c (x := iI x) hc.1 hc.2.1 hd q (kk l p e s m args below meth c D ad cy A H locs ls hc)
theorem z_bret0 (hr0 : k.2.2.2.2.1 = some .byte) (hd : decode k.1 pc = .ok (.ireturn, 1)) (hp : post (AI 0) hi) : Z k post pc lv [AI 0] hi := by
  intro l p e s m args below meth c D ad cy A H locs ls hc
  obtain ⟨hx, hb, hr, hml, hown, hlk, hts, hA, hst, hld, hK, hP, hD, hS, hR, hl⟩ := id hc
  exact W.zret (v := iI 0) (ty := .byte) hx hb (hr.trans hr0) rfl (fun t ht hW => ⟨⟨AI 0, hi, rfl, hp, hR, by rw [ht]; exact hP⟩, hS.F ht⟩) hS.2.2 hd hlk
theorem z_cret {x : Int} (hr0 : k.2.2.2.2.1 = some .char) (h0 : 0 ≤ x ∧ x < 256) (hd : decode k.1 pc = .ok (.ireturn, 1)) (hp : post (AI x) hi) : Z k post pc lv [AI x] hi := by
  intro l p e s m args below meth c D ad cy A H locs ls hc
  obtain ⟨hx, hb, hr, hml, hown, hlk, hts, hA, hst, hld, hK, hP, hD, hS, hR, hl⟩ := id hc
  exact W.zret (v := iI x) (ty := .char) hx hb (hr.trans hr0) (by rw [show x = ((x.toNat : Nat) : Int) by omega, iI_nI]; exact (pk_charN (by omega)).1) (fun t ht hW => ⟨⟨AI x, hi, rfl, hp, hR, by rw [ht]; exact hP⟩, hS.F ht⟩) hS.2.2 hd hlk
theorem z_callVO {kc : Kd} {y : MethodName} {T : List AV → HI → (AV → HI → Prop) → Prop} {ws' : List Cond} {idx n z : Nat} {As stk' : List AV} (hC : Ct kc y T) (hg : GoodIn k.2.1 (wsV k.2.2.2.1 idx "java/lang/String" y kc.2.1)) (hw : kc.2.1 = Cond.code y kc.1 kc.2.2.2.2.2 kc.2.2.2.2.1 :: ws') (hrm : kc.2.2.1.cells = 0 ∧ kc.2.2.1.slots = 0)
    (hy : y.cls = "java/lang/String" ∧ y.cls ≠ "java/lang/invoke/MethodHandle" ∧ y.cls ≠ "java/lang/invoke/VarHandle" ∧ (parseMethodDescriptor y.desc).map (fun d => d.parameters.length) = some n) (hR : kc.2.2.1.frames + 1 ≤ k.2.2.1.frames ∧ 8 + (kc.2.2.2.2.2 + 11) + kc.2.2.1.locals ≤ k.2.2.1.locals)
    (hz : z < 46) (hd : decode k.1 pc = .ok (.invokevirtual idx, 3)) (hn : As.length = n) (hstk : stk' = As.reverse ++ AR (201 + z) :: stk) (hsz : szS stk ≤ 8) (hT : T (AR (201 + z) :: As) hi (fun r h2 => Z k post (pc + 3) lv (pu r stk) h2)) : Z k post pc lv stk' hi := by
  rw [show 201 + z = (200 + z) + 1 by omega] at hstk hT
  refine z_behind (kc := kc) (stk0 := stk) hT (fun l p e s m args below meth c D ad cy A H locs ls hc => ?_)
  obtain ⟨hx, hb, hr, hml, hown, hlk, hts, hA, hst, hld, hK, hP, hD, hS, hRG, hl⟩ := id hc
  have hM := hC l D ad cy A (AR ((200 + z) + 1) :: As) hi _ hT
  have hcw : CallW k.2.2.1 s args k.2.2.2.1 "java/lang/String" idx y kc.1 kc.2.2.2.2.2 kc.2.2.2.2.1 kc.2.1 kc.2.2.1 0 0 n := cwV n hts hg hw hrm.1 hrm.2 hy hR
  exact va_runV (b := ad (200 + z)) (As := As.map (cv ad)) (rest := stk.map (cv ad)) (g := F0 m pc ls (stk'.map (cv ad))) (R := k.2.2.1) (cells := 0) (slots := 0) ⟨hx, hb, hml, hown, hts⟩ hM hcw ⟨PC.blind, va_Orecv (hst.2.2.1 z hz).1 hS, fun U hU hW => PC.use (k := k) (lv := lv) hc hU hW⟩ rfl (by rw [List.length_map]; exact hn) hl.1 (by rw [hstk]; simp [cv, rv, rc, va_re, va_rf]) (by rw [szS_sum]; show 2 * 0 + szS stk ≤ 8; omega) hd ⟨Nat.zero_le _, Nat.zero_le _⟩
end ZR2
