/-! ===== the law's loop ===== -/
theorem ll_mod (x : Int32) : ∃ t : Nat, t < 32 ∧ x &&& 31 = nI t := by
  obtain ⟨n, hn, rfl⟩ := nw_of x
  refine ⟨n &&& 31, Nat.lt_of_le_of_lt Nat.and_le_right (by omega), ?_⟩
  rw [show (31 : Int32) = nI 31 from rfl, nw_and]
theorem ll_neg : ∀ L, L < 4 → (nI L - 4 : Int32) < 0 := by decide
theorem ll_end {L i : Nat} (hL : L ≤ 2048) (hi : i ≤ L) : (nI L - 4 < nI i ↔ ¬ i + 4 ≤ L) := by
  by_cases c : L < 4
  · constructor
    · intro _; omega
    · intro _
      exact Int32.lt_of_lt_of_le (ll_neg L c) (Int32.not_lt.mp (nI_pos (by omega)))
  · rw [show (4 : Int32) = nI 4 from rfl, pk_sub (by omega), nI_ltI (by omega) (by omega)]
    omega
theorem ll_29 (t : Nat) : t = 0 ∨ t = 1 ∨ t = 2 ∨ t = 3 ∨ t = 4 ∨ t = 5 ∨ t = 6 ∨ t = 7 ∨ t = 8 ∨ t = 9 ∨ t = 10 ∨ t = 11 ∨ t = 12 ∨ t = 13 ∨ t = 14 ∨ t = 15 ∨ t = 16 ∨ t = 17 ∨ t = 18 ∨ t = 19 ∨ t = 20 ∨ t = 21 ∨ t = 22 ∨ t = 23 ∨ t = 24 ∨ t = 25 ∨ t = 26 ∨ t = 27 ∨ t = 28 ∨ 29 ≤ t := by omega
section LL
variable {p : Program} {l : Launch} {e : Env} {s : State} {m : MethodId} {below : List Frame} {meth : Method} {c : Code} {D : va_G} {tI tZ tL : ClassId} {hx hm o b L : Nat} {xs : Nat → Int32} {ax am : Nat → Nat}
set_option maxHeartbeats 4000000 in
set_option maxRecDepth 100000 in
theorem ll_loop (E : L_E p l s m meth c b L xs D tI tZ tL) (A : L_A s hx ax hm am o) (hret : meth.sig.returnType = ret) (hlocks : meth.locks = false) : ∀ (n k : Nat) (σ τ : ST) (td np nr : Nat) (H : Heap) (locs : List Loc) (ls : Array Slot), L < 4 * (k + n) → 4 * k ≤ L → td ≤ 1000 * k → RR σ τ td np nr → L_S s D tI tZ tL hx ax hm am o σ τ H locs → lv_has ls 7 (L_v b hx hm o (4 * k)) → W p l e room_1 s m #[Value.ref b] below meth c H locs (23 + k) (1034 + 6 * k) (lw_Z below #[Value.ref b] s) (F0 m 23 ls [])
  | 0, k, _, _, _, _, _, _, _, _, h1, h2, _, _, _, _ => absurd h1 (by omega)
  | n + 1, k, σ, τ, td, np, nr, H, locs, ls, h1, h2, htd, hR, hSS, hl => by
    have E0 := E
    obtain ⟨hex, hb, hml, hown, hts, hX, hbl, hK, hE, hlf, hL⟩ := E
    obtain ⟨f, hPx, hPm, hPo, hS⟩ := hSS
    have hSS : L_S s D tI tZ tL hx ax hm am o σ τ H locs := ⟨f, hPx, hPm, hPo, hS⟩
    refine lv_iload hex hb dL_law_23 (lv_at hl 0 rfl) ?_
    refine lv_aload_n hex hb dL_law_25 rfl (lv_at hl 4 rfl) ?_
    refine va_slen hex hb hX hbl (A := fun q => s.heap.size ≤ q) (Nat.not_le.mpr hbl) hS dL_law_26 ?_
    refine lv_iconst (v := 4) hex hb dL_law_27 (by decide) ?_
    refine lv_isub hex hb dL_law_28 ?_
    refine lv_icmp_gt (tgt := 1680) hex hb dL_law_29 (by decide) (fun _ => ?_) (fun hc => ?_)
    · refine lv_iconst (v := 1) hex hb dL_law_1680 (by decide) ?_
      refine va_forget hS.2.2 ?_
      exact W.widen (by omega) (by omega) (lw_ret hex hb hret hlocks dL_law_1681)
    · have hc2 : ¬ nI L - 4 < nI (4 * k) := hc
      rw [ll_end hL h2] at hc2
      have h4 : 4 * k + 4 ≤ L := by
        rcases Nat.lt_or_ge L (4 * k + 4) with g | g
        · exact absurd (by omega) hc2
        · exact g
      refine lv_aload_n hex hb dL_law_32 rfl (lv_at hl 4 rfl) ?_
      refine lv_iload hex hb dL_law_33 (lv_at hl 0 rfl) ?_
      refine va_sld hex hb hX hbl (A := fun q => s.heap.size ≤ q) (Nat.not_le.mpr hbl) hS (vp_in_nI (by omega) (by omega)) dL_law_35 ?_
      refine lv_bipush (v := 31) hex hb dL_law_36 (by decide) ?_
      refine lv_iand hex hb dL_law_38 ?_
      have hcap : 23 + k + 1 ≤ room_1.cells ∧ 1034 + 6 * k + 6 ≤ room_1.slots := ⟨by show _ ≤ 1066; omega, by show _ ≤ 9340; omega⟩
      have kk : ∀ (σ' τ' : ST) (td' np' nr' : Nat) (H' : Heap) (locs' : List Loc) (ls' : Array Slot), td' ≤ td + 1000 → RR σ' τ' td' np' nr' → L_S s D tI tZ tL hx ax hm am o σ' τ' H' locs' → lv_has ls' 7 (L_v b hx hm o (4 * k)) → W p l e room_1 s m #[Value.ref b] below meth c H' locs' (23 + k + 1) (1034 + 6 * k + 6) (lw_Z below #[Value.ref b] s) (F0 m 1674 ls' []) := fun σ' τ' td' np' nr' H' locs' ls' htd' hR' hS' hl' => by
        refine lv_iinc (k := 0) (v := nI (4 * (k + 1))) (lv' := L_v b hx hm o (4 * (k + 1))) hex hb dL_law_1674 hl' rfl (by rw [show Int32.ofInt 4 = nI 4 by decide, nI_add]; rfl) (by decide) rfl (fun ls2 hl2 => ?_)
        refine lv_goto (tgt := 23) hex hb dL_law_1677 (by decide) ?_
        exact W.widen (by omega) (by omega) (ll_loop E0 A hret hlocks n (k + 1) σ' τ' td' np' nr' H' locs' ls2 (by omega) (by omega) (by omega) hR' hS' hl2)
      obtain ⟨t, ht, et⟩ := ll_mod (xs (nI (4 * k)).toNatClampNeg)
      rw [et]
      have htd2 : td ≤ 999000 := by omega
      have hi : 4 * k + 3 < L := by omega
      rcases ll_29 t with rfl | rfl | rfl | rfl | rfl | rfl | rfl | rfl | rfl | rfl | rfl | rfl | rfl | rfl | rfl | rfl | rfl | rfl | rfl | rfl | rfl | rfl | rfl | rfl | rfl | rfl | rfl | rfl | rfl | h29
      · exact lv_tableIn (off := 129) (tgt := 168) hex hb dL_law_39 (by decide +kernel) (by decide +kernel) (by decide +kernel) (by decide) (lc_addPurpose E0 A hR htd2 hcap hi hSS hl kk)
      · exact lv_tableIn (off := 213) (tgt := 252) hex hb dL_law_39 (by decide +kernel) (by decide +kernel) (by decide +kernel) (by decide) (lc_setRetention E0 A hR htd2 hcap hi hSS hl kk)
      · exact lv_tableIn (off := 281) (tgt := 320) hex hb dL_law_39 (by decide +kernel) (by decide +kernel) (by decide +kernel) (by decide) (lc_consent E0 A hR htd2 hcap hi hSS hl kk)
      · exact lv_tableIn (off := 384) (tgt := 423) hex hb dL_law_39 (by decide +kernel) (by decide +kernel) (by decide +kernel) (by decide) (lc_consents E0 A hR htd2 hcap hi hSS hl kk)
      · exact lv_tableIn (off := 440) (tgt := 479) hex hb dL_law_39 (by decide +kernel) (by decide +kernel) (by decide +kernel) (by decide) (lc_daysWithConsent E0 A hR htd2 hcap hi hSS hl kk)
      · exact lv_tableIn (off := 508) (tgt := 547) hex hb dL_law_39 (by decide +kernel) (by decide +kernel) (by decide +kernel) (by decide) (lc_add E0 A hR htd2 hcap hi hSS hl kk)
      · exact lv_tableIn (off := 576) (tgt := 615) hex hb dL_law_39 (by decide +kernel) (by decide +kernel) (by decide +kernel) (by decide) (lc_derive E0 A hR htd2 hcap hi hSS hl kk)
      · exact lv_tableIn (off := 644) (tgt := 683) hex hb dL_law_39 (by decide +kernel) (by decide +kernel) (by decide +kernel) (by decide) (lc_addSource E0 A hR htd2 hcap hi hSS hl kk)
      · exact lv_tableIn (off := 712) (tgt := 751) hex hb dL_law_39 (by decide +kernel) (by decide +kernel) (by decide +kernel) (by decide) (lc_records E0 A hR htd2 hcap hi hSS hl kk)
      · exact lv_tableIn (off := 725) (tgt := 764) hex hb dL_law_39 (by decide +kernel) (by decide +kernel) (by decide +kernel) (by decide) (lc_stateOf E0 A hR htd2 hcap hi hSS hl kk)
      · exact lv_tableIn (off := 781) (tgt := 820) hex hb dL_law_39 (by decide +kernel) (by decide +kernel) (by decide +kernel) (by decide) (lc_subjectsOf E0 A hR htd2 hcap hi hSS hl kk)
      · exact lv_tableIn (off := 837) (tgt := 876) hex hb dL_law_39 (by decide +kernel) (by decide +kernel) (by decide +kernel) (by decide) (lc_below E0 A hR htd2 hcap hi hSS hl kk)
      · exact lv_tableIn (off := 893) (tgt := 932) hex hb dL_law_39 (by decide +kernel) (by decide +kernel) (by decide +kernel) (by decide) (lc_endOf E0 A hR htd2 hcap hi hSS hl kk)
      · exact lv_tableIn (off := 949) (tgt := 988) hex hb dL_law_39 (by decide +kernel) (by decide +kernel) (by decide +kernel) (by decide) (lc_whyNoUse E0 A hR htd2 hcap hi hSS hl kk)
      · exact lv_tableIn (off := 1017) (tgt := 1056) hex hb dL_law_39 (by decide +kernel) (by decide +kernel) (by decide +kernel) (by decide) (lc_use E0 A hR htd2 hcap hi hSS hl kk)
      · exact lv_tableIn (off := 1085) (tgt := 1124) hex hb dL_law_39 (by decide +kernel) (by decide +kernel) (by decide +kernel) (by decide) (lc_uses E0 A hR htd2 hcap hi hSS hl kk)
      · exact lv_tableIn (off := 1153) (tgt := 1192) hex hb dL_law_39 (by decide +kernel) (by decide +kernel) (by decide +kernel) (by decide) (lc_passDays E0 A hR htd2 hcap hi hSS hl kk)
      · exact lv_tableIn (off := 1209) (tgt := 1248) hex hb dL_law_39 (by decide +kernel) (by decide +kernel) (by decide +kernel) (by decide) (lc_day E0 A hR htd2 hcap hi hSS hl kk)
      · exact lv_tableIn (off := 1222) (tgt := 1261) hex hb dL_law_39 (by decide +kernel) (by decide +kernel) (by decide +kernel) (by decide) (lc_nextEnd E0 A hR htd2 hcap hi hSS hl kk)
      · exact lv_tableIn (off := 1235) (tgt := 1274) hex hb dL_law_39 (by decide +kernel) (by decide +kernel) (by decide +kernel) (by decide) (lc_hold E0 A hR htd2 hcap hi hSS hl kk)
      · exact lv_tableIn (off := 1303) (tgt := 1342) hex hb dL_law_39 (by decide +kernel) (by decide +kernel) (by decide +kernel) (by decide) (lc_close E0 A hR htd2 hcap hi hSS hl kk)
      · exact lv_tableIn (off := 1359) (tgt := 1398) hex hb dL_law_39 (by decide +kernel) (by decide +kernel) (by decide +kernel) (by decide) (lc_held E0 A hR htd2 hcap hi hSS hl kk)
      · exact lv_tableIn (off := 1372) (tgt := 1411) hex hb dL_law_39 (by decide +kernel) (by decide +kernel) (by decide +kernel) (by decide) (lc_request E0 A hR htd2 hcap hi hSS hl kk)
      · exact lv_tableIn (off := 1428) (tgt := 1467) hex hb dL_law_39 (by decide +kernel) (by decide +kernel) (by decide +kernel) (by decide) (lc_whyKept E0 A hR htd2 hcap hi hSS hl kk)
      · exact lv_tableIn (off := 1484) (tgt := 1523) hex hb dL_law_39 (by decide +kernel) (by decide +kernel) (by decide +kernel) (by decide) (lc_erase E0 A hR htd2 hcap hi hSS hl kk)
      · exact lv_tableIn (off := 1497) (tgt := 1536) hex hb dL_law_39 (by decide +kernel) (by decide +kernel) (by decide +kernel) (by decide) (lc_eraseAll E0 A hR htd2 hcap hi hSS hl kk)
      · exact lv_tableIn (off := 1510) (tgt := 1549) hex hb dL_law_39 (by decide +kernel) (by decide +kernel) (by decide +kernel) (by decide) (lc_traces E0 A hR htd2 hcap hi hSS hl kk)
      · exact lv_tableIn (off := 1566) (tgt := 1605) hex hb dL_law_39 (by decide +kernel) (by decide +kernel) (by decide +kernel) (by decide) (lc_tracesFromRoots E0 A hR htd2 hcap hi hSS hl kk)
      · exact lv_tableIn (off := 1622) (tgt := 1661) hex hb dL_law_39 (by decide +kernel) (by decide +kernel) (by decide +kernel) (by decide) (lc_due E0 A hR htd2 hcap hi hSS hl kk)
      · refine lv_tableOut (tgt := 1674) hex hb dL_law_39 (Or.inr ?_) (by decide) ?_
        · rcases (by omega : t = 29 ∨ t = 30 ∨ t = 31) with rfl | rfl | rfl <;> decide
        · exact W.widen (Nat.le_add_right _ _) (Nat.le_add_right _ _) (kk σ τ td np nr H locs ls (by omega) hR hSS hl)
end LL
