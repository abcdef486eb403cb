/-! the law's loop -/
section LOOP
variable {L : Nat} {xs : Nat → Int32} {b : Nat}
theorem law_head {cells slots i : Nat} {hi : HI} (hL : L ≤ 3072) (hi2 : i ≤ L + 6) (hc : cells ≤ 601024 ∧ slots ≤ 7293034) (body : i + 6 ≤ L → ZG kLaw (eeW L xs) (QW b) cells slots 33 (lvL i) [] hi) : ZG kLaw (eeW L xs) (QW b) cells slots 23 (lvL i) [] hi := by
  refine zg_iload (pc := 23) (i := 4) (x := (i : Int)) dL_law_23 0 rfl ?_
  refine zg_aload_n (pc := 25) (x := 500) dL_law_25 rfl 4 rfl ?_
  refine zg_slen (pc := 26) (L := L) (xs := xs) (fun c s ad A h => h.2.1) dL_law_26 ?_
  refine zg_bipush (pc := 27) (v := 6) dL_law_27 (by decide +kernel) ?_
  refine zg_isub (pc := 29) dL_law_29 (fun v ev => ?_)
  refine zg_icmp_gt (pc := 30) (tgt := 1491) dL_law_30 (by decide) ⟨by omega, by omega⟩ ⟨by omega, by omega⟩ (fun q => ?_) (fun q => ?_)
  · refine zg_iconst (pc := 1491) (v := 1) dL_law_1491 rfl ?_
    exact zw_ret (pc := 1492) dL_law_1492 hc.1 hc.2
  · exact body (by omega)
theorem law_body {QQ : QE} {cells slots i : Nat} {hi : HI} (hL : L ≤ 3072) (h6 : i + 6 ≤ L) (hc : cells + 1 ≤ 601024 ∧ slots + 6 ≤ 7293034) (r : LwR hi) (tl : Tail L xs QQ cells slots i) : ZG kLaw (eeW L xs) QQ cells slots 33 (lvL i) [] hi := by
  refine zg_aload_n (pc := 33) (x := 500) dL_law_33 rfl 4 rfl ?_
  refine zg_iload (pc := 34) (i := 4) (x := (i : Int)) dL_law_34 0 rfl ?_
  refine zg_sld (pc := 36) (L := L) (xs := xs) (fun c s ad A h => h.2.1) (by omega) (by omega) (by omega) dL_law_36 (fun w ew rw => ?_)
  refine zg_bipush (pc := 37) (v := 63) dL_law_37 (by decide +kernel) ?_
  refine zg_iand (pc := 39) dL_law_39 (fun z ez => ?_)
  refine zg_tsw (pc := 40) (dtgt := 1485) (tg := [192, 241, 302, 339, 376, 413, 462, 511, 536, 549, 602, 675, 700, 725, 750, 775, 800, 868, 905, 930, 967, 1004, 1041, 1078, 1127, 1152, 1189, 1238, 1287, 1324, 1361, 1386, 1423, 1448]) dL_law_40 (by rw [ez]; exact toInt_inR _) (by decide) (by decide +kernel) (fun _ => tl hi cells slots r (Nat.le_succ _) (Nat.le_add_right _ _)) ?_
  exact ⟨fun _ => case_born hL h6 hc r tl, fun _ => case_span hL h6 hc r tl, fun _ => case_died hL h6 hc r tl, fun _ => case_unborn hL h6 hc r tl, fun _ => case_revived hL h6 hc r tl, fun _ => case_shifted hL h6 hc r tl, fun _ => case_worthed hL h6 hc r tl, fun _ => case_lock hL h6 hc r tl, fun _ => case_undo hL h6 hc r tl, fun _ => case_keep hL h6 hc r tl, fun _ => case_feed hL h6 hc r tl, fun _ => case_text hL h6 hc r tl, fun _ => case_ran hL h6 hc r tl, fun _ => case_ask hL h6 hc r tl, fun _ => case_report hL h6 hc r tl, fun _ => case_count hL h6 hc r tl, fun _ => case_life hL h6 hc r tl, fun _ => case_which hL h6 hc r tl, fun _ => case_alive hL h6 hc r tl, fun _ => case_next hL h6 hc r tl, fun _ => case_before hL h6 hc r tl, fun _ => case_rank hL h6 hc r tl, fun _ => case_kth hL h6 hc r tl, fun _ => case_sum hL h6 hc r tl, fun _ => case_gap hL h6 hc r tl, fun _ => case_changes hL h6 hc r tl, fun _ => case_always hL h6 hc r tl, fun _ => case_ever hL h6 hc r tl, fun _ => case_both hL h6 hc r tl, fun _ => case_reigns hL h6 hc r tl, fun _ => case_crowd hL h6 hc r tl, fun _ => case_cover hL h6 hc r tl, fun _ => case_on hL h6 hc r tl, fun _ => case_onAt hL h6 hc r tl, trivial⟩
theorem law_loop (hL : L ≤ 3072) : ∀ (n i : Nat) (hi : HI) (cells slots : Nat), LwR hi → L + 6 < i + 6 * n + 6 → i ≤ L + 6 → cells ≤ 60 + i → slots ≤ 18000 + i → ZG kLaw (eeW L xs) (QW b) cells slots 23 (lvL i) [] hi := by
  intro n
  induction n with
  | zero =>
    intro i hi cells slots r h1 h2 h3 h4
    exact law_head hL h2 ⟨by omega, by omega⟩ (fun h => absurd h (by omega))
  | succ n ih =>
    intro i hi cells slots r h1 h2 h3 h4
    refine law_head hL h2 ⟨by omega, by omega⟩ (fun h6 => ?_)
    refine law_body hL h6 ⟨by omega, by omega⟩ r (fun h2 c2 s2 r2 hc2 hs2 => ?_)
    refine zg_iinc (pc := 1485) (i := 4) (j := 0) (n := 6) (x := (i : Int)) dL_law_1485 rfl (by decide) (w := fun v => [(4, AI v), (3, AR 55), (2, AR 40), (1, AR 1), (0, AR 500)]) (fun _ => rfl) (fun v ev => ?_)
    refine zg_goto (pc := 1488) (tgt := 23) dL_law_1488 (by decide) ?_
    have e9 : v = ((i + 6 : Nat) : Int) := by omega
    subst e9
    exact ih (i + 6) h2 c2 s2 r2 (by omega) (by omega) (by omega) (by omega)
end LOOP
