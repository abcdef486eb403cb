theorem px_ns : ∀ w ∈ nsW, w ∈ tables_1 := by decide +kernel
theorem px_Xst {args : Array Value} {s : State} (h : (Jvm.Cond.and given_1 narrow_1).before args s = true) (hts : ∀ w ∈ lw_tbl, w.before args s = true) : XSt (fun q => s.heap.size ≤ q) s s.heap ∧ CST s := by
  have hA : ∀ a : Nat, a < s.heap.size → ¬ (fun q : Nat => s.heap.size ≤ q) a := fun a h1 h2 => Nat.not_le.mpr h1 h2
  have tb : ∀ {w : Cond}, w ∈ tables_1 → w.before args s = true := fun e => hts _ (List.mem_append_right _ e)
  refine ⟨⟨vx_Zqof (tb (tn4 (List.mem_of_getElem? (i := 180) rfl))) (tb (tn1 (List.mem_of_getElem? (i := 17) rfl))) ((pr (pl (pr (pl (pr (pr (pl (pr (pl (pr h))))))))))) hA, vx_Zqof (tb (tn4 (List.mem_of_getElem? (i := 182) rfl))) (tb (tn1 (List.mem_of_getElem? (i := 17) rfl))) ((pl (pr (pr (pl (pr (pr (pl (pr (pl (pr h))))))))))) hA, fun w hw => ?_⟩, ?_⟩
  · exact va_tabs (ns_on hw) rfl (tb (px_ns w hw))
  · exact va_tabs rfl rfl (tb (tn4 (List.mem_of_getElem? (i := 155) rfl)))
