set_option maxRecDepth 20000 in
set_option maxHeartbeats 8000000 in
theorem law_loop {x : ax_T} {Y : ax_Y} {ad : Nat → Nat} {Q : State → Prop} {b Ls : Nat} {xs : Nat → Int32} (C : ax_C x Y iL 20 600000 7302250) (hX : va_X b Ls xs x.2.1.1 Y.2.2.heap) (hb : b < Y.2.2.heap.size) (h3 : Ls ≤ 3072) (fin : ∀ (σ : ax_Z) (i : Nat), ax_S x Y ad 96 3326 Q σ 1094 [some (.ref b), some (.ref (ad 0)), some (.ref (ad 77)), some (.int (nI i))] []) : ∀ (q i : Nat) (σ : ax_Z), RR σ → i ≤ Ls → Ls < i + q → ax_S x Y ad 96 3326 Q σ 18 [some (.ref b), some (.ref (ad 0)), some (.ref (ad 77)), some (.int (nI i))] [] := by
  intro q
  induction q with
  | zero => intro i σ _ h1 h2; exfalso; omega
  | succ q ih =>
    intro i σ R h1 h2
    refine ax_iload_3 (pc := 18) C dL_law_18 ?_
    refine ax_aload_0 (pc := 19) C dL_law_19 ?_
    refine ax_slen (pc := 20) C hX hb dL_law_20 ?_
    refine ax_bipush (pc := 21) (v := 6) C dL_law_21 (by decide) ?_
    refine ax_isub (pc := 23) C dL_law_23 ?_
    refine ax_icmp_gt (pc := 24) (tgt := 1094) C dL_law_24 (by decide) (fun _ => fin σ i) (fun h24 => ?_)
    have h6 : i + 6 ≤ Ls := by
      have z := Int32.le_iff_toInt_le.mp (Int32.not_lt.mp h24)
      rw [show (nI Ls - 6).toInt = (Ls : Int) - 6 from pk_sub_toInt (b := 6) (by omega) (by decide), nI_toInt (by omega)] at z
      omega
    have cont : ∀ σ', RR σ' → ax_S x Y ad 96 3326 Q σ' 1088 [some (.ref b), some (.ref (ad 0)), some (.ref (ad 77)), some (.int (nI i))] [] := by
      intro σ' R'
      refine ax_iinc_3 (pc := 1088) C dL_law_1088 (6) (by decide) rfl ?_
      refine ax_goto (pc := 1091) (tgt := 18) C dL_law_1091 (by decide) ?_
      refine ax_Leq (by rw [show nI i + 6 = nI (i + 6) from nI_add _ _]) (ih (i + 6) σ' R' (by omega) (by omega))
    refine ax_aload_0 (pc := 27) C dL_law_27 ?_
    refine ax_iload_3 (pc := 28) C dL_law_28 ?_
    refine ax_sld (pc := 29) (k := i) C hX hb h3 dL_law_29 (by omega) ?_
    refine ax_bipush (pc := 30) (v := 31) C dL_law_30 (by decide) ?_
    refine ax_iand (pc := 32) C dL_law_32 ?_
    obtain ⟨k, hk, ek⟩ := pk_andE (xs i) (m := 31) 5 (by decide)
    refine ax_val C ek ?_
    have hk' : k < 32 := hk
    clear ek hk
    rcases (show k = 0 ∨ k = 1 ∨ k = 2 ∨ k = 3 ∨ k = 4 ∨ k = 5 ∨ k = 6 ∨ k = 7 ∨ k = 8 ∨ k = 9 ∨ k = 10 ∨ k = 11 ∨ k = 12 ∨ k = 13 ∨ k = 14 ∨ k = 15 ∨ k = 16 ∨ k = 17 ∨ k = 18 ∨ k = 19 ∨ k = 20 ∨ k = 21 ∨ k = 22 ∨ k = 23 ∨ k = 24 ∨ k = 25 ∨ k = 26 ∨ k = 27 ∨ k = 28 ∨ k = 29 ∨ k = 30 ∨ k = 31 by omega) with rfl | rfl | rfl | rfl | rfl | rfl | rfl | rfl | rfl | rfl | rfl | rfl | rfl | rfl | rfl | rfl | rfl | rfl | rfl | rfl | rfl | rfl | rfl | rfl | rfl | rfl | rfl | rfl | rfl | rfl | rfl | rfl
    · refine ax_tabIn (pc := 33) (off := 135) (tgt := 168) C dL_law_33 (by decide) (by decide) (by decide) (by decide) ?_
      exact lc_row C hX hb h3 R h6 cont
    · refine ax_tabIn (pc := 33) (off := 178) (tgt := 211) C dL_law_33 (by decide) (by decide) (by decide) (by decide) ?_
      exact lc_set C hX hb h3 R h6 cont
    · refine ax_tabIn (pc := 33) (off := 221) (tgt := 254) C dL_law_33 (by decide) (by decide) (by decide) (by decide) ?_
      exact lc_copy C hX hb h3 R h6 cont
    · refine ax_tabIn (pc := 33) (off := 284) (tgt := 317) C dL_law_33 (by decide) (by decide) (by decide) (by decide) ?_
      exact lc_drop C hX hb h3 R h6 cont
    · refine ax_tabIn (pc := 33) (off := 307) (tgt := 340) C dL_law_33 (by decide) (by decide) (by decide) (by decide) ?_
      exact lc_feed C hX hb h3 R h6 cont
    · refine ax_tabIn (pc := 33) (off := 370) (tgt := 403) C dL_law_33 (by decide) (by decide) (by decide) (by decide) ?_
      exact lc_pass C hX hb h3 R h6 cont
    · refine ax_tabIn (pc := 33) (off := 383) (tgt := 416) C dL_law_33 (by decide) (by decide) (by decide) (by decide) ?_
      exact lc_fault C hX hb h3 R h6 cont
    · refine ax_tabIn (pc := 33) (off := 396) (tgt := 429) C dL_law_33 (by decide) (by decide) (by decide) (by decide) ?_
      exact lc_hour C hX hb h3 R h6 cont
    · refine ax_tabIn (pc := 33) (off := 409) (tgt := 442) C dL_law_33 (by decide) (by decide) (by decide) (by decide) ?_
      exact lc_waits C hX hb h3 R h6 cont
    · refine ax_tabIn (pc := 33) (off := 442) (tgt := 475) C dL_law_33 (by decide) (by decide) (by decide) (by decide) ?_
      exact lc_undo C hX hb h3 R h6 cont
    · refine ax_tabIn (pc := 33) (off := 455) (tgt := 488) C dL_law_33 (by decide) (by decide) (by decide) (by decide) ?_
      exact lc_cart C hX hb h3 R h6 cont
    · refine ax_tabIn (pc := 33) (off := 488) (tgt := 521) C dL_law_33 (by decide) (by decide) (by decide) (by decide) ?_
      exact lc_day C hX hb h3 R h6 cont
    · refine ax_tabIn (pc := 33) (off := 521) (tgt := 554) C dL_law_33 (by decide) (by decide) (by decide) (by decide) ?_
      exact lc_judge C hX hb h3 R h6 cont
    · refine ax_tabIn (pc := 33) (off := 554) (tgt := 587) C dL_law_33 (by decide) (by decide) (by decide) (by decide) ?_
      exact lc_best C hX hb h3 R h6 cont
    · refine ax_tabIn (pc := 33) (off := 587) (tgt := 620) C dL_law_33 (by decide) (by decide) (by decide) (by decide) ?_
      exact lc_rest C hX hb h3 R h6 cont
    · refine ax_tabIn (pc := 33) (off := 610) (tgt := 643) C dL_law_33 (by decide) (by decide) (by decide) (by decide) ?_
      exact lc_thought C hX hb h3 R h6 cont
    · refine ax_tabIn (pc := 33) (off := 643) (tgt := 676) C dL_law_33 (by decide) (by decide) (by decide) (by decide) ?_
      exact lc_two C hX hb h3 R h6 cont
    · refine ax_tabIn (pc := 33) (off := 696) (tgt := 729) C dL_law_33 (by decide) (by decide) (by decide) (by decide) ?_
      exact lc_shares C hX hb h3 R h6 cont
    · refine ax_tabIn (pc := 33) (off := 729) (tgt := 762) C dL_law_33 (by decide) (by decide) (by decide) (by decide) ?_
      exact lc_size C hX hb h3 R h6 cont
    · refine ax_tabIn (pc := 33) (off := 742) (tgt := 775) C dL_law_33 (by decide) (by decide) (by decide) (by decide) ?_
      exact lc_book C hX hb h3 R h6 cont
    · refine ax_tabIn (pc := 33) (off := 775) (tgt := 808) C dL_law_33 (by decide) (by decide) (by decide) (by decide) ?_
      exact lc_ford C hX hb h3 R h6 cont
    · refine ax_tabIn (pc := 33) (off := 828) (tgt := 861) C dL_law_33 (by decide) (by decide) (by decide) (by decide) ?_
      exact lc_goat C hX hb h3 R h6 cont
    · refine ax_tabIn (pc := 33) (off := 861) (tgt := 894) C dL_law_33 (by decide) (by decide) (by decide) (by decide) ?_
      exact lc_image C hX hb h3 R h6 cont
    · refine ax_tabIn (pc := 33) (off := 884) (tgt := 917) C dL_law_33 (by decide) (by decide) (by decide) (by decide) ?_
      exact lc_restore C hX hb h3 R h6 cont
    · refine ax_tabIn (pc := 33) (off := 907) (tgt := 940) C dL_law_33 (by decide) (by decide) (by decide) (by decide) ?_
      exact lc_kind C hX hb h3 R h6 cont
    · refine ax_tabIn (pc := 33) (off := 930) (tgt := 963) C dL_law_33 (by decide) (by decide) (by decide) (by decide) ?_
      exact lc_as C hX hb h3 R h6 cont
    · refine ax_tabIn (pc := 33) (off := 963) (tgt := 996) C dL_law_33 (by decide) (by decide) (by decide) (by decide) ?_
      exact lc_ask C hX hb h3 R h6 cont
    · refine ax_tabIn (pc := 33) (off := 996) (tgt := 1029) C dL_law_33 (by decide) (by decide) (by decide) (by decide) ?_
      exact lc_trace C hX hb h3 R h6 cont
    · refine ax_tabIn (pc := 33) (off := 1019) (tgt := 1052) C dL_law_33 (by decide) (by decide) (by decide) (by decide) ?_
      exact lc_count C hX hb h3 R h6 cont
    · refine ax_tabIn (pc := 33) (off := 1042) (tgt := 1075) C dL_law_33 (by decide) (by decide) (by decide) (by decide) ?_
      exact lc_status C hX hb h3 R h6 cont
    · refine ax_tabOut (pc := 33) (tgt := 1088) C dL_law_33 (by decide) (by decide) ?_
      exact cont σ R
    · refine ax_tabOut (pc := 33) (tgt := 1088) C dL_law_33 (by decide) (by decide) ?_
      exact cont σ R
