section ZR3
theorem ldcWS {p : Program} {l : Launch} {e : Env} {R : Room} {s : State} {m : MethodId} {args : Array Value} {below : List Frame} {meth : Method} {c : Code} {T : State} {locs : List Loc} {cells slots : Nat} (X : Stand p l e R s m args below meth c T locs cells slots) (hexec : p.tables.exec = Jvm.exec) {own text : String} {index : Nat} {a : Addr} (hown : s.vm.findClass own = some m.cls) (hconst : (Cond.stringRef own index text).before args s = true) (hev : (Term.string own index).eval args s none [] s = some (.ref a)) {g : JFrame} (hg : g.method = m) (hdg : decode c.code g.pc = .ok (.ldc_w index, 3)) : ∀ target, Steps p.tables e below (T.setTop { g with pc := g.pc + 3, stack := .ref a :: g.stack }) target → Steps p.tables e below (T.setTop g) target := by
  obtain ⟨k, cf, i, a', hk, hcf, hcp, -, hr, hev'⟩ := Cond.stringRef_spec hown hconst
  cases hev.symm.trans hev'
  obtain ⟨k', hk', he⟩ := X.warmed.alike.2.2 _ _ hk
  have hr' : k'.resolved[index]? = some (some (.string a)) := by
    rcases X.warmed.entry hk hk' index with h | ⟨h, -⟩
    · rw [h]; exact hr
    · rw [hr] at h; cases h
  intro target hrest
  subst hg
  jvm_step X.here [hexec, hdg, Op.ldc_w.wp_string (e := e) (s := T) (f := g) X.here.top hk' (by rw [he]; exact hcf) hcp hr']
  exact hrest
variable {k : Kd} {post : AV → HI → Prop} {pc : Nat} {lv : List (Nat × AV)} {stk : List AV} {hi : HI}
theorem z_ldcS {z idx : Nat} (hown0 : k.2.2.2.1 = "LateSet") (hz : ∀ (ad : Nat → Nat) (s : State), Ldc ad s → ∃ tx : String, vk_R "LateSet" idx tx (ad (200 + z)) s) (hd : decode k.1 pc = .ok (.ldc_w idx, 3)) (kk : Z k post (pc + 3) lv (AR (201 + z) :: stk) hi) : Z k post pc lv stk hi := by
  intro l p e s m args below meth c D ad cy A H locs ls hc
  obtain ⟨hx, hb, hr, hml, hown, hlk, hts, hA, hst, hld, hK, hP, hD, hS, hRG, hl⟩ := id hc
  have h := kk l p e s m args below meth c D ad cy A H locs ls hc
  obtain ⟨tx, hz⟩ := hz ad s hld
  rw [hown0] at hown
  rw [show 201 + z = (200 + z) + 1 by omega] at h
  intro T hT X
  obtain ⟨t, a1, b1⟩ := h T hT X
  exact ⟨t, ldcWS X hx hown (text := tx) hz.1 hz.2 rfl (by rw [hb]; exact hd) t a1, b1⟩
end ZR3
