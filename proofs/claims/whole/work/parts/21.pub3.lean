set_option maxHeartbeats 4000000 in
set_option maxRecDepth 100000 in
theorem c_setThing (l : Launch) {G : Gt} {ws : va_W} (sz : Nat) {x sh li : Nat} {ad ar : Nat → Nat} {S : St} (hR : RpX G x sh li ad ar S ws) (hI : Inv S) (pl i th : Int32) : Met l yX5_setThing wsX5_setThing ({ frames := 2, cells := 0, slots := 0, locals := 45 } : Room) (Pw G [.ref x, .int pl, .int i, .int th] ws sz) (va_Qi (fun (r : Int32) (u : va_W) => r = (sp_setThing S pl i th).1 ∧ ∃ ad2 ar2, RpX G x sh li ad2 ar2 (sp_setThing S pl i th).2 u) (Bw G ws sz) (va_A ws sz)) 0 0 (va_A ws sz) := by
  refine Met_pw (cc := cX5_setThing) (maxL := 8) (ret := (some .int)) (by decide) rfl (Nat.le_of_ble_eq_true rfl) ?_
  intro p e s m below meth c ls hsz S9 hr hlk hnm w hl
  subst hsz
  replace S9 : CallFix p m c cX5_setThing 8 s _ wsX5_setThing RX5 := S9
  have hx := S9.1
  have hb := S9.2.1
  have hown := S9.2.2.2.1
  have hts := S9.2.2.2.2
  replace hl : lv_has ls 8 [(0, .ref x), (1, .int pl), (2, .int i), (3, .int th)] := hl
  refine lv_aload_n hx hb dX5_setThing_0 rfl (lv_at hl 0 rfl) ?_
  refine lv_iload_n hx hb dX5_setThing_1 rfl (lv_at hl 1 rfl) ?_
  refine kx_itemAt S9 w hR hI gX5_setThing_X5_itemAt hl.1 (Nat.le_of_ble_eq_true rfl) dX5_setThing_2 ⟨Nat.le_of_ble_eq_true rfl, Nat.le_of_ble_eq_true rfl⟩ ⟨Nat.le_of_ble_eq_true rfl, Nat.le_of_ble_eq_true rfl⟩ (fun i_2 => ?_) (fun h o i_2 ho => ?_)
  · refine lv_astoreN (lv' := [(4, .null), (0, .ref x), (1, .int pl), (2, .int i), (3, .int th)]) hx hb dX5_setThing_5 hl (by decide) rfl (fun ls hl => ?_)
    refine lv_aload_n hx hb dX5_setThing_7 rfl (lv_at hl 1 rfl) ?_
    refine lv_iload_n hx hb dX5_setThing_8 rfl (lv_at hl 4 rfl) ?_
    refine k_vq S9 w (c_itemAt l _ hR th) hR.1 rfl (cwV 1 hts gX5_setThing_X5_itemAt rfl rfl rfl (by decide +kernel) ⟨Nat.le_of_ble_eq_true rfl, Nat.le_of_ble_eq_true rfl⟩) rfl hl.1 rfl (Nat.le_of_ble_eq_true rfl) dX5_setThing_9 ⟨Nat.le_of_ble_eq_true rfl, Nat.le_of_ble_eq_true rfl⟩ (fun r9 e9 => ?_)
    subst e9
    refine lq_astore (lv' := [(5, va_rf ((itm S th).map ad)), (4, .null), (0, .ref x), (1, .int pl), (2, .int i), (3, .int th)]) hx hb dX5_setThing_12 hl (by decide) rfl (fun ls hl => ?_)
    refine lq_aload hx hb dX5_setThing_14 (lv_at hl 0 rfl) ?_
    refine lq_ifnonnull (tgt := 26) hx hb dX5_setThing_16 (by decide) (fun c_16 => ?_) (fun a_16 c_16 => ?_)
    · refine lv_iload_n hx hb dX5_setThing_19 rfl (lv_at hl 5 rfl) ?_
      refine lv_iconst (v := (-1)) hx hb dX5_setThing_20 (by decide) ?_
      refine lv_icmp_eq (tgt := 26) hx hb dX5_setThing_21 (by decide) (fun c_21 => ?_) (fun c_21 => ?_)
      · refine lv_aloadN hx hb dX5_setThing_26 (lv_at hl 1 rfl) ?_
        refine lv_iload_n hx hb dX5_setThing_28 rfl (lv_at hl 4 rfl) ?_
        refine lv_iconst (v := 4) hx hb dX5_setThing_29 (by decide) ?_
        refine lv_bipush (v := 6) hx hb dX5_setThing_30 (by decide) ?_
        refine k_si S9 w (c_refusalAt_N l _ i 4 6) (va_cwS 4 hts gX5_setThing_X5_refusalAt rfl rfl rfl (by decide +kernel) ⟨Nat.le_of_ble_eq_true rfl, Nat.le_of_ble_eq_true rfl⟩) rfl hl.1 rfl (Nat.le_of_ble_eq_true rfl) dX5_setThing_32 ⟨Nat.le_of_ble_eq_true rfl, Nat.le_of_ble_eq_true rfl⟩ (fun v7 e7 => ?_)
        refine lv_istore (lv' := [(6, .int v7), (5, va_rf ((itm S th).map ad)), (4, .null), (0, .ref x), (1, .int pl), (2, .int i), (3, .int th)]) hx hb dX5_setThing_35 hl (by decide) (by simp [List.filter, va_rf_cat]) (fun ls hl => ?_)
        refine lv_iload hx hb dX5_setThing_37 (lv_at hl 0 rfl) ?_
        refine lv_if_ne (tgt := 77) hx hb dX5_setThing_39 (by decide) (fun c_39 => ?_) (fun c_39 => ?_)
        · refine lv_iload hx hb dX5_setThing_77 (lv_at hl 0 rfl) ?_
          exact ew_i S9 hr hlk w (by rw [st_N i_2, e7]; exact ⟨rfl, ad, ar, hR⟩) dX5_setThing_79 (by decide) (by decide)
        · exact absurd (e7.symm.trans c_39) (by decide)
      · refine lv_iconst (v := 1) hx hb dX5_setThing_24 (by decide) ?_
        exact ew_i S9 hr hlk w (by rw [st_1 (map_ad_none c_16) c_21]; exact ⟨rfl, ad, ar, hR⟩) dX5_setThing_25 (by decide) (by decide)
    · refine lv_aloadN hx hb dX5_setThing_26 (lv_at hl 1 rfl) ?_
      refine lv_iload_n hx hb dX5_setThing_28 rfl (lv_at hl 4 rfl) ?_
      refine lv_iconst (v := 4) hx hb dX5_setThing_29 (by decide) ?_
      refine lv_bipush (v := 6) hx hb dX5_setThing_30 (by decide) ?_
      refine k_si S9 w (c_refusalAt_N l _ i 4 6) (va_cwS 4 hts gX5_setThing_X5_refusalAt rfl rfl rfl (by decide +kernel) ⟨Nat.le_of_ble_eq_true rfl, Nat.le_of_ble_eq_true rfl⟩) rfl hl.1 rfl (Nat.le_of_ble_eq_true rfl) dX5_setThing_32 ⟨Nat.le_of_ble_eq_true rfl, Nat.le_of_ble_eq_true rfl⟩ (fun v7 e7 => ?_)
      refine lv_istore (lv' := [(6, .int v7), (5, va_rf ((itm S th).map ad)), (4, .null), (0, .ref x), (1, .int pl), (2, .int i), (3, .int th)]) hx hb dX5_setThing_35 hl (by decide) (by simp [List.filter, va_rf_cat]) (fun ls hl => ?_)
      refine lv_iload hx hb dX5_setThing_37 (lv_at hl 0 rfl) ?_
      refine lv_if_ne (tgt := 77) hx hb dX5_setThing_39 (by decide) (fun c_39 => ?_) (fun c_39 => ?_)
      · refine lv_iload hx hb dX5_setThing_77 (lv_at hl 0 rfl) ?_
        exact ew_i S9 hr hlk w (by rw [st_N i_2, e7]; exact ⟨rfl, ad, ar, hR⟩) dX5_setThing_79 (by decide) (by decide)
      · exact absurd (e7.symm.trans c_39) (by decide)
  · obtain ⟨dk, kd, q1, q2, q3, q4⟩ := hR.2.2.2.1 h o ho
    rcases (show o_k o ≤ 3 ∨ (4 ≤ o_k o ∧ o_k o ≤ 6) ∨ 7 ≤ o_k o by omega) with hk | ⟨hk, hm⟩ | hk
    · rw [o_num hk] at q1
      refine lv_astore (lv' := [(4, .ref (ad h)), (0, .ref x), (1, .int pl), (2, .int i), (3, .int th)]) hx hb dX5_setThing_5 hl (by decide) rfl (fun ls hl => ?_)
      refine lv_aload_n hx hb dX5_setThing_7 rfl (lv_at hl 1 rfl) ?_
      refine lv_iload_n hx hb dX5_setThing_8 rfl (lv_at hl 4 rfl) ?_
      refine k_vq S9 w (c_itemAt l _ hR th) hR.1 rfl (cwV 1 hts gX5_setThing_X5_itemAt rfl rfl rfl (by decide +kernel) ⟨Nat.le_of_ble_eq_true rfl, Nat.le_of_ble_eq_true rfl⟩) rfl hl.1 rfl (Nat.le_of_ble_eq_true rfl) dX5_setThing_9 ⟨Nat.le_of_ble_eq_true rfl, Nat.le_of_ble_eq_true rfl⟩ (fun r9 e9 => ?_)
      subst e9
      refine lq_astore (lv' := [(5, va_rf ((itm S th).map ad)), (4, .ref (ad h)), (0, .ref x), (1, .int pl), (2, .int i), (3, .int th)]) hx hb dX5_setThing_12 hl (by decide) rfl (fun ls hl => ?_)
      refine lq_aload hx hb dX5_setThing_14 (lv_at hl 0 rfl) ?_
      refine lq_ifnonnull (tgt := 26) hx hb dX5_setThing_16 (by decide) (fun c_16 => ?_) (fun a_16 c_16 => ?_)
      · refine lv_iload_n hx hb dX5_setThing_19 rfl (lv_at hl 5 rfl) ?_
        refine lv_iconst (v := (-1)) hx hb dX5_setThing_20 (by decide) ?_
        refine lv_icmp_eq (tgt := 26) hx hb dX5_setThing_21 (by decide) (fun c_21 => ?_) (fun c_21 => ?_)
        · refine lv_aload hx hb dX5_setThing_26 (lv_at hl 1 rfl) ?_
          refine lv_iload_n hx hb dX5_setThing_28 rfl (lv_at hl 4 rfl) ?_
          refine lv_iconst (v := 4) hx hb dX5_setThing_29 (by decide) ?_
          refine lv_bipush (v := 6) hx hb dX5_setThing_30 (by decide) ?_
          refine k_si S9 w (c_refusalAt_0 l _ q1 i 4 6) (va_cwS 4 hts gX5_setThing_X5_refusalAt rfl rfl rfl (by decide +kernel) ⟨Nat.le_of_ble_eq_true rfl, Nat.le_of_ble_eq_true rfl⟩) rfl hl.1 rfl (Nat.le_of_ble_eq_true rfl) dX5_setThing_32 ⟨Nat.le_of_ble_eq_true rfl, Nat.le_of_ble_eq_true rfl⟩ (fun v7 e7 => ?_)
          rw [← ref1_row (o := o) (i := i) (lo := 4) (hi := 6) (by omega)] at e7
          refine lv_istore (lv' := [(6, .int v7), (5, va_rf ((itm S th).map ad)), (4, .ref (ad h)), (0, .ref x), (1, .int pl), (2, .int i), (3, .int th)]) hx hb dX5_setThing_35 hl (by decide) (by simp [List.filter, va_rf_cat]) (fun ls hl => ?_)
          refine lv_iload hx hb dX5_setThing_37 (lv_at hl 0 rfl) ?_
          refine lv_if_ne (tgt := 77) hx hb dX5_setThing_39 (by decide) (fun c_39 => ?_) (fun c_39 => ?_)
          · refine lv_iload hx hb dX5_setThing_77 (lv_at hl 0 rfl) ?_
            exact ew_i S9 hr hlk w (by rw [e7] at c_39; rw [st_no (fun q => q.2 c_21) i_2 ho c_39, e7]; exact ⟨rfl, ad, ar, hR⟩) dX5_setThing_79 (by decide) (by decide)
          · obtain ⟨z1, z2, z3, z4⟩ := ref1_zero (a := 4) (b := 6) (e7.symm.trans c_39) (by decide) (by decide) (hI.ob ho).1
            omega
        · refine lv_iconst (v := 1) hx hb dX5_setThing_24 (by decide) ?_
          exact ew_i S9 hr hlk w (by rw [st_1 (map_ad_none c_16) c_21]; exact ⟨rfl, ad, ar, hR⟩) dX5_setThing_25 (by decide) (by decide)
      · refine lv_aload hx hb dX5_setThing_26 (lv_at hl 1 rfl) ?_
        refine lv_iload_n hx hb dX5_setThing_28 rfl (lv_at hl 4 rfl) ?_
        refine lv_iconst (v := 4) hx hb dX5_setThing_29 (by decide) ?_
        refine lv_bipush (v := 6) hx hb dX5_setThing_30 (by decide) ?_
        refine k_si S9 w (c_refusalAt_0 l _ q1 i 4 6) (va_cwS 4 hts gX5_setThing_X5_refusalAt rfl rfl rfl (by decide +kernel) ⟨Nat.le_of_ble_eq_true rfl, Nat.le_of_ble_eq_true rfl⟩) rfl hl.1 rfl (Nat.le_of_ble_eq_true rfl) dX5_setThing_32 ⟨Nat.le_of_ble_eq_true rfl, Nat.le_of_ble_eq_true rfl⟩ (fun v7 e7 => ?_)
        rw [← ref1_row (o := o) (i := i) (lo := 4) (hi := 6) (by omega)] at e7
        refine lv_istore (lv' := [(6, .int v7), (5, va_rf ((itm S th).map ad)), (4, .ref (ad h)), (0, .ref x), (1, .int pl), (2, .int i), (3, .int th)]) hx hb dX5_setThing_35 hl (by decide) (by simp [List.filter, va_rf_cat]) (fun ls hl => ?_)
        refine lv_iload hx hb dX5_setThing_37 (lv_at hl 0 rfl) ?_
        refine lv_if_ne (tgt := 77) hx hb dX5_setThing_39 (by decide) (fun c_39 => ?_) (fun c_39 => ?_)
        · refine lv_iload hx hb dX5_setThing_77 (lv_at hl 0 rfl) ?_
          exact ew_i S9 hr hlk w (by rw [e7] at c_39; rw [st_no (fun q => map_ad_some c_16 q.1) i_2 ho c_39, e7]; exact ⟨rfl, ad, ar, hR⟩) dX5_setThing_79 (by decide) (by decide)
        · obtain ⟨z1, z2, z3, z4⟩ := ref1_zero (a := 4) (b := 6) (e7.symm.trans c_39) (by decide) (by decide) (hI.ob ho).1
          omega
    · rw [o_obj hk hm] at q1
      refine lv_astore (lv' := [(4, .ref (ad h)), (0, .ref x), (1, .int pl), (2, .int i), (3, .int th)]) hx hb dX5_setThing_5 hl (by decide) rfl (fun ls hl => ?_)
      refine lv_aload_n hx hb dX5_setThing_7 rfl (lv_at hl 1 rfl) ?_
      refine lv_iload_n hx hb dX5_setThing_8 rfl (lv_at hl 4 rfl) ?_
      refine k_vq S9 w (c_itemAt l _ hR th) hR.1 rfl (cwV 1 hts gX5_setThing_X5_itemAt rfl rfl rfl (by decide +kernel) ⟨Nat.le_of_ble_eq_true rfl, Nat.le_of_ble_eq_true rfl⟩) rfl hl.1 rfl (Nat.le_of_ble_eq_true rfl) dX5_setThing_9 ⟨Nat.le_of_ble_eq_true rfl, Nat.le_of_ble_eq_true rfl⟩ (fun r9 e9 => ?_)
      subst e9
      refine lq_astore (lv' := [(5, va_rf ((itm S th).map ad)), (4, .ref (ad h)), (0, .ref x), (1, .int pl), (2, .int i), (3, .int th)]) hx hb dX5_setThing_12 hl (by decide) rfl (fun ls hl => ?_)
      refine lq_aload hx hb dX5_setThing_14 (lv_at hl 0 rfl) ?_
      refine lq_ifnonnull (tgt := 26) hx hb dX5_setThing_16 (by decide) (fun c_16 => ?_) (fun a_16 c_16 => ?_)
      · refine lv_iload_n hx hb dX5_setThing_19 rfl (lv_at hl 5 rfl) ?_
        refine lv_iconst (v := (-1)) hx hb dX5_setThing_20 (by decide) ?_
        refine lv_icmp_eq (tgt := 26) hx hb dX5_setThing_21 (by decide) (fun c_21 => ?_) (fun c_21 => ?_)
        · refine lv_aload hx hb dX5_setThing_26 (lv_at hl 1 rfl) ?_
          refine lv_iload_n hx hb dX5_setThing_28 rfl (lv_at hl 4 rfl) ?_
          refine lv_iconst (v := 4) hx hb dX5_setThing_29 (by decide) ?_
          refine lv_bipush (v := 6) hx hb dX5_setThing_30 (by decide) ?_
          refine k_si S9 w (c_refusalAt_1 l _ q1 i 4 6) (va_cwS 4 hts gX5_setThing_X5_refusalAt rfl rfl rfl (by decide +kernel) ⟨Nat.le_of_ble_eq_true rfl, Nat.le_of_ble_eq_true rfl⟩) rfl hl.1 rfl (Nat.le_of_ble_eq_true rfl) dX5_setThing_32 ⟨Nat.le_of_ble_eq_true rfl, Nat.le_of_ble_eq_true rfl⟩ (fun v7 e7 => ?_)
          rw [← ref1_row (o := o) (i := i) (lo := 4) (hi := 6) (by omega)] at e7
          refine lv_istore (lv' := [(6, .int v7), (5, va_rf ((itm S th).map ad)), (4, .ref (ad h)), (0, .ref x), (1, .int pl), (2, .int i), (3, .int th)]) hx hb dX5_setThing_35 hl (by decide) (by simp [List.filter, va_rf_cat]) (fun ls hl => ?_)
          refine lv_iload hx hb dX5_setThing_37 (lv_at hl 0 rfl) ?_
          refine lv_if_ne (tgt := 77) hx hb dX5_setThing_39 (by decide) (fun c_39 => ?_) (fun c_39 => ?_)
          · refine lv_iload hx hb dX5_setThing_77 (lv_at hl 0 rfl) ?_
            exact ew_i S9 hr hlk w (by rw [e7] at c_39; rw [st_no (fun q => q.2 c_21) i_2 ho c_39, e7]; exact ⟨rfl, ad, ar, hR⟩) dX5_setThing_79 (by decide) (by decide)
          · obtain ⟨z1, z2, z3, z4⟩ := ref1_zero (a := 4) (b := 6) (e7.symm.trans c_39) (by decide) (by decide) (hI.ob ho).1
            have z5 := inE_in z3 (by have := (hI.ob ho).2; omega)
            refine lv_aload hx hb dX5_setThing_42 (lv_at hl 2 rfl) ?_
            refine r_inst S9 w q1 (by decide) 1 (by decide) (by decide +kernel) (v := 1) rfl dX5_setThing_44 ?_
            refine lv_if_eq (tgt := 77) hx hb dX5_setThing_47 (by decide) (fun c_47 => absurd c_47 (by decide)) (fun c_47 => ?_)
            refine lv_aload hx hb dX5_setThing_50 (lv_at hl 2 rfl) ?_
            refine r_cast S9 w q1 (by decide) 1 (by decide) rfl (by decide +kernel) dX5_setThing_52 ?_
            refine lv_astore (lv' := [(7, .ref (ad h)), (6, .int v7), (5, va_rf ((itm S th).map ad)), (4, .ref (ad h)), (0, .ref x), (1, .int pl), (2, .int i), (3, .int th)]) hx hb dX5_setThing_55 hl (by decide) rfl (fun ls hl => ?_)
            refine lv_aload hx hb dX5_setThing_57 (lv_at hl 0 rfl) ?_
            refine lq_aload hx hb dX5_setThing_59 (lv_at hl 2 rfl) ?_
            refine k_vi S9 w (u_isFitFor l _ hR hI q1 hk hm (itm S th) (hI.it th)) q1 rfl (cwV 1 hts gX5_setThing_X2_isFitFor rfl rfl rfl (by decide +kernel) ⟨Nat.le_of_ble_eq_true rfl, Nat.le_of_ble_eq_true rfl⟩) rfl hl.1 rfl (Nat.le_of_ble_eq_true rfl) dX5_setThing_61 ⟨Nat.le_of_ble_eq_true rfl, Nat.le_of_ble_eq_true rfl⟩ (fun v10 e10 => ?_)
            refine lv_if_ne (tgt := 69) hx hb dX5_setThing_64 (by decide) (fun c_64 => ?_) (fun c_64 => ?_)
            · refine lv_aload hx hb dX5_setThing_69 (lv_at hl 0 rfl) ?_
              refine lv_iload_n hx hb dX5_setThing_71 rfl (lv_at hl 6 rfl) ?_
              refine lq_aload hx hb dX5_setThing_72 (lv_at hl 2 rfl) ?_
              refine kw_vv S9 w (u_putObject l _ hR q1 (q4 hk hm) i z5 (itm S th) (hI.it th)) q1 rfl (cwV 2 hts gX5_setThing_X2_putObject rfl rfl rfl (by decide +kernel) ⟨Nat.le_of_ble_eq_true rfl, Nat.le_of_ble_eq_true rfl⟩) rfl hl.1 rfl (Nat.le_of_ble_eq_true rfl) dX5_setThing_74 ⟨Nat.le_of_ble_eq_true rfl, Nat.le_of_ble_eq_true rfl⟩ (fun u8 H8 lc8 p8 w8 => ?_)
              have hR8 := RpX.els w.2.1 hR ho hk hm p8 (by rw [map_up])
              refine lv_iload hx hb dX5_setThing_77 (lv_at hl 1 rfl) ?_
              exact ew_i S9 hr hlk w8 (by rw [st_ok (fun q => q.2 c_21) i_2 ho (e7.symm.trans c_39) (by rw [e10] at c_64; by_cases hf : fitE S (o_k o) (itm S th) = true; exact hf; simp [hf] at c_64), c_39]; exact ⟨rfl, ad, ar, hR8⟩) dX5_setThing_79 (by decide) (by decide)
            · refine lv_iconst (v := 5) hx hb dX5_setThing_67 (by decide) ?_
              exact ew_i S9 hr hlk w (by rw [st_bad (fun q => q.2 c_21) i_2 ho (e7.symm.trans c_39) (by rw [e10] at c_64; by_cases hf : fitE S (o_k o) (itm S th) = true; (simp [hf] at c_64); simpa using hf)]; exact ⟨rfl, ad, ar, hR⟩) dX5_setThing_68 (by decide) (by decide)
        · refine lv_iconst (v := 1) hx hb dX5_setThing_24 (by decide) ?_
          exact ew_i S9 hr hlk w (by rw [st_1 (map_ad_none c_16) c_21]; exact ⟨rfl, ad, ar, hR⟩) dX5_setThing_25 (by decide) (by decide)
      · refine lv_aload hx hb dX5_setThing_26 (lv_at hl 1 rfl) ?_
        refine lv_iload_n hx hb dX5_setThing_28 rfl (lv_at hl 4 rfl) ?_
        refine lv_iconst (v := 4) hx hb dX5_setThing_29 (by decide) ?_
        refine lv_bipush (v := 6) hx hb dX5_setThing_30 (by decide) ?_
        refine k_si S9 w (c_refusalAt_1 l _ q1 i 4 6) (va_cwS 4 hts gX5_setThing_X5_refusalAt rfl rfl rfl (by decide +kernel) ⟨Nat.le_of_ble_eq_true rfl, Nat.le_of_ble_eq_true rfl⟩) rfl hl.1 rfl (Nat.le_of_ble_eq_true rfl) dX5_setThing_32 ⟨Nat.le_of_ble_eq_true rfl, Nat.le_of_ble_eq_true rfl⟩ (fun v7 e7 => ?_)
        rw [← ref1_row (o := o) (i := i) (lo := 4) (hi := 6) (by omega)] at e7
        refine lv_istore (lv' := [(6, .int v7), (5, va_rf ((itm S th).map ad)), (4, .ref (ad h)), (0, .ref x), (1, .int pl), (2, .int i), (3, .int th)]) hx hb dX5_setThing_35 hl (by decide) (by simp [List.filter, va_rf_cat]) (fun ls hl => ?_)
        refine lv_iload hx hb dX5_setThing_37 (lv_at hl 0 rfl) ?_
        refine lv_if_ne (tgt := 77) hx hb dX5_setThing_39 (by decide) (fun c_39 => ?_) (fun c_39 => ?_)
        · refine lv_iload hx hb dX5_setThing_77 (lv_at hl 0 rfl) ?_
          exact ew_i S9 hr hlk w (by rw [e7] at c_39; rw [st_no (fun q => map_ad_some c_16 q.1) i_2 ho c_39, e7]; exact ⟨rfl, ad, ar, hR⟩) dX5_setThing_79 (by decide) (by decide)
        · obtain ⟨z1, z2, z3, z4⟩ := ref1_zero (a := 4) (b := 6) (e7.symm.trans c_39) (by decide) (by decide) (hI.ob ho).1
          have z5 := inE_in z3 (by have := (hI.ob ho).2; omega)
          refine lv_aload hx hb dX5_setThing_42 (lv_at hl 2 rfl) ?_
          refine r_inst S9 w q1 (by decide) 1 (by decide) (by decide +kernel) (v := 1) rfl dX5_setThing_44 ?_
          refine lv_if_eq (tgt := 77) hx hb dX5_setThing_47 (by decide) (fun c_47 => absurd c_47 (by decide)) (fun c_47 => ?_)
          refine lv_aload hx hb dX5_setThing_50 (lv_at hl 2 rfl) ?_
          refine r_cast S9 w q1 (by decide) 1 (by decide) rfl (by decide +kernel) dX5_setThing_52 ?_
          refine lv_astore (lv' := [(7, .ref (ad h)), (6, .int v7), (5, va_rf ((itm S th).map ad)), (4, .ref (ad h)), (0, .ref x), (1, .int pl), (2, .int i), (3, .int th)]) hx hb dX5_setThing_55 hl (by decide) rfl (fun ls hl => ?_)
          refine lv_aload hx hb dX5_setThing_57 (lv_at hl 0 rfl) ?_
          refine lq_aload hx hb dX5_setThing_59 (lv_at hl 2 rfl) ?_
          refine k_vi S9 w (u_isFitFor l _ hR hI q1 hk hm (itm S th) (hI.it th)) q1 rfl (cwV 1 hts gX5_setThing_X2_isFitFor rfl rfl rfl (by decide +kernel) ⟨Nat.le_of_ble_eq_true rfl, Nat.le_of_ble_eq_true rfl⟩) rfl hl.1 rfl (Nat.le_of_ble_eq_true rfl) dX5_setThing_61 ⟨Nat.le_of_ble_eq_true rfl, Nat.le_of_ble_eq_true rfl⟩ (fun v10 e10 => ?_)
          refine lv_if_ne (tgt := 69) hx hb dX5_setThing_64 (by decide) (fun c_64 => ?_) (fun c_64 => ?_)
          · refine lv_aload hx hb dX5_setThing_69 (lv_at hl 0 rfl) ?_
            refine lv_iload_n hx hb dX5_setThing_71 rfl (lv_at hl 6 rfl) ?_
            refine lq_aload hx hb dX5_setThing_72 (lv_at hl 2 rfl) ?_
            refine kw_vv S9 w (u_putObject l _ hR q1 (q4 hk hm) i z5 (itm S th) (hI.it th)) q1 rfl (cwV 2 hts gX5_setThing_X2_putObject rfl rfl rfl (by decide +kernel) ⟨Nat.le_of_ble_eq_true rfl, Nat.le_of_ble_eq_true rfl⟩) rfl hl.1 rfl (Nat.le_of_ble_eq_true rfl) dX5_setThing_74 ⟨Nat.le_of_ble_eq_true rfl, Nat.le_of_ble_eq_true rfl⟩ (fun u8 H8 lc8 p8 w8 => ?_)
            have hR8 := RpX.els w.2.1 hR ho hk hm p8 (by rw [map_up])
            refine lv_iload hx hb dX5_setThing_77 (lv_at hl 1 rfl) ?_
            exact ew_i S9 hr hlk w8 (by rw [st_ok (fun q => map_ad_some c_16 q.1) i_2 ho (e7.symm.trans c_39) (by rw [e10] at c_64; by_cases hf : fitE S (o_k o) (itm S th) = true; exact hf; simp [hf] at c_64), c_39]; exact ⟨rfl, ad, ar, hR8⟩) dX5_setThing_79 (by decide) (by decide)
          · refine lv_iconst (v := 5) hx hb dX5_setThing_67 (by decide) ?_
            exact ew_i S9 hr hlk w (by rw [st_bad (fun q => map_ad_some c_16 q.1) i_2 ho (e7.symm.trans c_39) (by rw [e10] at c_64; by_cases hf : fitE S (o_k o) (itm S th) = true; (simp [hf] at c_64); simpa using hf)]; exact ⟨rfl, ad, ar, hR⟩) dX5_setThing_68 (by decide) (by decide)
    · rw [o_thg hk] at q1
      refine lv_astore (lv' := [(4, .ref (ad h)), (0, .ref x), (1, .int pl), (2, .int i), (3, .int th)]) hx hb dX5_setThing_5 hl (by decide) rfl (fun ls hl => ?_)
      refine lv_aload_n hx hb dX5_setThing_7 rfl (lv_at hl 1 rfl) ?_
      refine lv_iload_n hx hb dX5_setThing_8 rfl (lv_at hl 4 rfl) ?_
      refine k_vq S9 w (c_itemAt l _ hR th) hR.1 rfl (cwV 1 hts gX5_setThing_X5_itemAt rfl rfl rfl (by decide +kernel) ⟨Nat.le_of_ble_eq_true rfl, Nat.le_of_ble_eq_true rfl⟩) rfl hl.1 rfl (Nat.le_of_ble_eq_true rfl) dX5_setThing_9 ⟨Nat.le_of_ble_eq_true rfl, Nat.le_of_ble_eq_true rfl⟩ (fun r9 e9 => ?_)
      subst e9
      refine lq_astore (lv' := [(5, va_rf ((itm S th).map ad)), (4, .ref (ad h)), (0, .ref x), (1, .int pl), (2, .int i), (3, .int th)]) hx hb dX5_setThing_12 hl (by decide) rfl (fun ls hl => ?_)
      refine lq_aload hx hb dX5_setThing_14 (lv_at hl 0 rfl) ?_
      refine lq_ifnonnull (tgt := 26) hx hb dX5_setThing_16 (by decide) (fun c_16 => ?_) (fun a_16 c_16 => ?_)
      · refine lv_iload_n hx hb dX5_setThing_19 rfl (lv_at hl 5 rfl) ?_
        refine lv_iconst (v := (-1)) hx hb dX5_setThing_20 (by decide) ?_
        refine lv_icmp_eq (tgt := 26) hx hb dX5_setThing_21 (by decide) (fun c_21 => ?_) (fun c_21 => ?_)
        · refine lv_aload hx hb dX5_setThing_26 (lv_at hl 1 rfl) ?_
          refine lv_iload_n hx hb dX5_setThing_28 rfl (lv_at hl 4 rfl) ?_
          refine lv_iconst (v := 4) hx hb dX5_setThing_29 (by decide) ?_
          refine lv_bipush (v := 6) hx hb dX5_setThing_30 (by decide) ?_
          refine k_si S9 w (c_refusalAt_2 l _ q1 i 4 6) (va_cwS 4 hts gX5_setThing_X5_refusalAt rfl rfl rfl (by decide +kernel) ⟨Nat.le_of_ble_eq_true rfl, Nat.le_of_ble_eq_true rfl⟩) rfl hl.1 rfl (Nat.le_of_ble_eq_true rfl) dX5_setThing_32 ⟨Nat.le_of_ble_eq_true rfl, Nat.le_of_ble_eq_true rfl⟩ (fun v7 e7 => ?_)
          rw [← ref1_thg (o := o) (i := i) (lo := 4) (hi := 6) hk] at e7
          refine lv_istore (lv' := [(6, .int v7), (5, va_rf ((itm S th).map ad)), (4, .ref (ad h)), (0, .ref x), (1, .int pl), (2, .int i), (3, .int th)]) hx hb dX5_setThing_35 hl (by decide) (by simp [List.filter, va_rf_cat]) (fun ls hl => ?_)
          refine lv_iload hx hb dX5_setThing_37 (lv_at hl 0 rfl) ?_
          refine lv_if_ne (tgt := 77) hx hb dX5_setThing_39 (by decide) (fun c_39 => ?_) (fun c_39 => ?_)
          · refine lv_iload hx hb dX5_setThing_77 (lv_at hl 0 rfl) ?_
            exact ew_i S9 hr hlk w (by rw [e7] at c_39; rw [st_no (fun q => q.2 c_21) i_2 ho c_39, e7]; exact ⟨rfl, ad, ar, hR⟩) dX5_setThing_79 (by decide) (by decide)
          · exact absurd ((ref1_thg hk).symm.trans (e7.symm.trans c_39)) (by decide)
        · refine lv_iconst (v := 1) hx hb dX5_setThing_24 (by decide) ?_
          exact ew_i S9 hr hlk w (by rw [st_1 (map_ad_none c_16) c_21]; exact ⟨rfl, ad, ar, hR⟩) dX5_setThing_25 (by decide) (by decide)
      · refine lv_aload hx hb dX5_setThing_26 (lv_at hl 1 rfl) ?_
        refine lv_iload_n hx hb dX5_setThing_28 rfl (lv_at hl 4 rfl) ?_
        refine lv_iconst (v := 4) hx hb dX5_setThing_29 (by decide) ?_
        refine lv_bipush (v := 6) hx hb dX5_setThing_30 (by decide) ?_
        refine k_si S9 w (c_refusalAt_2 l _ q1 i 4 6) (va_cwS 4 hts gX5_setThing_X5_refusalAt rfl rfl rfl (by decide +kernel) ⟨Nat.le_of_ble_eq_true rfl, Nat.le_of_ble_eq_true rfl⟩) rfl hl.1 rfl (Nat.le_of_ble_eq_true rfl) dX5_setThing_32 ⟨Nat.le_of_ble_eq_true rfl, Nat.le_of_ble_eq_true rfl⟩ (fun v7 e7 => ?_)
        rw [← ref1_thg (o := o) (i := i) (lo := 4) (hi := 6) hk] at e7
        refine lv_istore (lv' := [(6, .int v7), (5, va_rf ((itm S th).map ad)), (4, .ref (ad h)), (0, .ref x), (1, .int pl), (2, .int i), (3, .int th)]) hx hb dX5_setThing_35 hl (by decide) (by simp [List.filter, va_rf_cat]) (fun ls hl => ?_)
        refine lv_iload hx hb dX5_setThing_37 (lv_at hl 0 rfl) ?_
        refine lv_if_ne (tgt := 77) hx hb dX5_setThing_39 (by decide) (fun c_39 => ?_) (fun c_39 => ?_)
        · refine lv_iload hx hb dX5_setThing_77 (lv_at hl 0 rfl) ?_
          exact ew_i S9 hr hlk w (by rw [e7] at c_39; rw [st_no (fun q => map_ad_some c_16 q.1) i_2 ho c_39, e7]; exact ⟨rfl, ad, ar, hR⟩) dX5_setThing_79 (by decide) (by decide)
        · exact absurd ((ref1_thg hk).symm.trans (e7.symm.trans c_39)) (by decide)

set_option maxHeartbeats 4000000 in
set_option maxRecDepth 100000 in
theorem c_get (l : Launch) {G : Gt} {ws : va_W} (sz : Nat) {x sh li : Nat} {ad ar : Nat → Nat} {S : St} (hR : RpX G x sh li ad ar S ws) (hI : Inv S) (pl i : Int32) : Met l yX5_get wsX5_get ({ frames := 2, cells := 0, slots := 0, locals := 45 } : Room) (Pw G [.ref x, .int pl, .int i] ws sz) (va_Ql (fun (r : Int64) (u : va_W) => r = (sp_get S pl i).1 ∧ ∃ ad2 ar2, RpX G x sh li ad2 ar2 (sp_get S pl i).2 u) (Bw G ws sz) (va_A ws sz)) 0 0 (va_A ws sz) := by
  refine Met_pw (cc := cX5_get) (maxL := 5) (ret := (some .long)) (by decide) rfl (Nat.le_of_ble_eq_true rfl) ?_
  intro p e s m below meth c ls hsz S9 hr hlk hnm w hl
  subst hsz
  replace S9 : CallFix p m c cX5_get 5 s _ wsX5_get RX5 := S9
  have hx := S9.1
  have hb := S9.2.1
  have hown := S9.2.2.2.1
  have hts := S9.2.2.2.2
  replace hl : lv_has ls 5 [(0, .ref x), (1, .int pl), (2, .int i)] := hl
  refine lv_aload_n hx hb dX5_get_0 rfl (lv_at hl 0 rfl) ?_
  refine lv_iload_n hx hb dX5_get_1 rfl (lv_at hl 1 rfl) ?_
  refine kx_itemAt S9 w hR hI gX5_get_X5_itemAt hl.1 (Nat.le_of_ble_eq_true rfl) dX5_get_2 ⟨Nat.le_of_ble_eq_true rfl, Nat.le_of_ble_eq_true rfl⟩ ⟨Nat.le_of_ble_eq_true rfl, Nat.le_of_ble_eq_true rfl⟩ (fun i_2 => ?_) (fun h o i_2 ho => ?_)
  · refine lv_astore_nN (lv' := [(3, .null), (0, .ref x), (1, .int pl), (2, .int i)]) hx hb dX5_get_5 rfl hl (by decide) rfl (fun ls hl => ?_)
    refine lv_aload_n hx hb dX5_get_6 rfl (lv_at hl 1 rfl) ?_
    refine lv_aload_nN hx hb dX5_get_7 rfl (lv_at hl 0 rfl) ?_
    refine lv_iload_n hx hb dX5_get_8 rfl (lv_at hl 3 rfl) ?_
    refine lv_iconst (v := 0) hx hb dX5_get_9 (by decide) ?_
    refine lv_bipush (v := 6) hx hb dX5_get_10 (by decide) ?_
    refine k_si S9 w (c_refusalAt_N l _ i 0 6) (va_cwS 4 hts gX5_get_X5_refusalAt rfl rfl rfl (by decide +kernel) ⟨Nat.le_of_ble_eq_true rfl, Nat.le_of_ble_eq_true rfl⟩) rfl hl.1 rfl (Nat.le_of_ble_eq_true rfl) dX5_get_12 ⟨Nat.le_of_ble_eq_true rfl, Nat.le_of_ble_eq_true rfl⟩ (fun v7 e7 => ?_)
    refine r_put (ref := "SpanMover") S9 w hR.1 rfl (by decide +kernel) tyX5_ok nmX5 4 (by decide) (by decide +kernel) (Or.inl rfl) rfl rfl rfl (Nat.le_of_ble_eq_true rfl) dX5_get_15 (fun ws8 H8 lc8 u8 w8 => ?_)
    have hR8 := RpX.sc w.2.1 hR u8 (oX_set sh li (s_c S) 2 (by decide) v7)
    replace hR8 : RpX G x sh li ad ar (s_u S, s_o S, s_s S, s_l S, upd (s_c S) 2 v7) ws8 := hR8
    have hx8 : hp ws8 x (.inr (3, [.ref sh, .ref li, .int (s_c S 0), .int (s_c S 1), .int v7, .int (s_c S 3), .int (s_c S 4), .int (s_c S 5), .int (s_c S 6)])) := hR8.1
    refine lv_aload_n hx hb dX5_get_18 rfl (lv_at hl 1 rfl) ?_
    refine r_get (ref := "SpanMover") S9 w8 hx8 rfl (by decide +kernel) 4 (by decide) (by decide +kernel) (Or.inl rfl) rfl dX5_get_19 ?_
    refine lv_if_ne (tgt := 45) hx hb dX5_get_22 (by decide) (fun c_22 => ?_) (fun c_22 => ?_)
    · refine lv_aload_n hx hb dX5_get_45 rfl (lv_at hl 1 rfl) ?_
      refine r_get (ref := "SpanMover") S9 w8 hx8 rfl (by decide +kernel) 4 (by decide) (by decide +kernel) (Or.inl rfl) rfl dX5_get_46 ?_
      refine lv_if_ne (tgt := 75) hx hb dX5_get_49 (by decide) (fun c_49 => ?_) (fun c_49 => absurd c_49 c_22)
      refine lv_lconst (v := 0) hx hb dX5_get_75 (by decide) ?_
      exact ew_l S9 hr hlk w8 (by rw [show sp_get S pl i = (0, s_sc S (upd (s_c S) 2 v7)) from by rw [e7]; simp [sp_get, obj_none i_2, ref1]]; exact ⟨rfl, ad, ar, hR8⟩) dX5_get_76 (by decide) (by decide)
    · exact absurd (e7.symm.trans c_22) (by decide)
  · obtain ⟨dk, kd, q1, q2, q3, q4⟩ := hR.2.2.2.1 h o ho
    rcases (show o_k o ≤ 3 ∨ (4 ≤ o_k o ∧ o_k o ≤ 6) ∨ 7 ≤ o_k o by omega) with hk | ⟨hk, hm⟩ | hk
    · rw [o_num hk] at q1
      refine lv_astore_n (lv' := [(3, .ref (ad h)), (0, .ref x), (1, .int pl), (2, .int i)]) hx hb dX5_get_5 rfl hl (by decide) rfl (fun ls hl => ?_)
      refine lv_aload_n hx hb dX5_get_6 rfl (lv_at hl 1 rfl) ?_
      refine lv_aload_n hx hb dX5_get_7 rfl (lv_at hl 0 rfl) ?_
      refine lv_iload_n hx hb dX5_get_8 rfl (lv_at hl 3 rfl) ?_
      refine lv_iconst (v := 0) hx hb dX5_get_9 (by decide) ?_
      refine lv_bipush (v := 6) hx hb dX5_get_10 (by decide) ?_
      refine k_si S9 w (c_refusalAt_0 l _ q1 i 0 6) (va_cwS 4 hts gX5_get_X5_refusalAt rfl rfl rfl (by decide +kernel) ⟨Nat.le_of_ble_eq_true rfl, Nat.le_of_ble_eq_true rfl⟩) rfl hl.1 rfl (Nat.le_of_ble_eq_true rfl) dX5_get_12 ⟨Nat.le_of_ble_eq_true rfl, Nat.le_of_ble_eq_true rfl⟩ (fun v7 e7 => ?_)
      rw [← ref1_row (o := o) (i := i) (lo := 0) (hi := 6) (by omega)] at e7
      refine r_put (ref := "SpanMover") S9 w hR.1 rfl (by decide +kernel) tyX5_ok nmX5 4 (by decide) (by decide +kernel) (Or.inl rfl) rfl rfl rfl (Nat.le_of_ble_eq_true rfl) dX5_get_15 (fun ws8 H8 lc8 u8 w8 => ?_)
      have hR8 := RpX.sc w.2.1 hR u8 (oX_set sh li (s_c S) 2 (by decide) v7)
      replace hR8 : RpX G x sh li ad ar (s_u S, s_o S, s_s S, s_l S, upd (s_c S) 2 v7) ws8 := hR8
      have hx8 : hp ws8 x (.inr (3, [.ref sh, .ref li, .int (s_c S 0), .int (s_c S 1), .int v7, .int (s_c S 3), .int (s_c S 4), .int (s_c S 5), .int (s_c S 6)])) := hR8.1
      obtain ⟨dk, kd, q1, q2, q3, q4⟩ := hR8.2.2.2.1 h o ho
      rw [o_num hk] at q1
      refine lv_aload_n hx hb dX5_get_18 rfl (lv_at hl 1 rfl) ?_
      refine r_get (ref := "SpanMover") S9 w8 hx8 rfl (by decide +kernel) 4 (by decide) (by decide +kernel) (Or.inl rfl) rfl dX5_get_19 ?_
      refine lv_if_ne (tgt := 45) hx hb dX5_get_22 (by decide) (fun c_22 => ?_) (fun c_22 => ?_)
      · refine lv_aload_n hx hb dX5_get_45 rfl (lv_at hl 1 rfl) ?_
        refine r_get (ref := "SpanMover") S9 w8 hx8 rfl (by decide +kernel) 4 (by decide) (by decide +kernel) (Or.inl rfl) rfl dX5_get_46 ?_
        refine lv_if_ne (tgt := 75) hx hb dX5_get_49 (by decide) (fun c_49 => ?_) (fun c_49 => absurd c_49 c_22)
        refine lv_lconst (v := 0) hx hb dX5_get_75 (by decide) ?_
        exact ew_l S9 hr hlk w8 (by rw [show sp_get S pl i = (0, s_sc S (upd (s_c S) 2 v7)) from by have e8 : ¬ ref1 (some o) i 0 6 = 0 := (by rw [← e7]; exact c_22); rw [e7]; simp [sp_get, obj_some i_2 ho, e8]]; exact ⟨rfl, ad, ar, hR8⟩) dX5_get_76 (by decide) (by decide)
      · obtain ⟨z1, z2, z3, z4⟩ := ref1_zero (a := 0) (b := 6) (e7.symm.trans c_22) (by decide) (by decide) (hI.ob ho).1
        have z5 := inE_in z3 (by have := (hI.ob ho).2; omega)
        refine lv_aload_n hx hb dX5_get_25 rfl (lv_at hl 0 rfl) ?_
        refine r_inst S9 w8 q1 (by decide) 0 (by decide) (by decide +kernel) (v := 1) rfl dX5_get_26 ?_
        refine lv_if_eq (tgt := 45) hx hb dX5_get_29 (by decide) (fun c_29 => absurd c_29 (by decide)) (fun c_29 => ?_)
        refine lv_aload_n hx hb dX5_get_32 rfl (lv_at hl 0 rfl) ?_
        refine r_cast S9 w8 q1 (by decide) 0 (by decide) rfl (by decide +kernel) dX5_get_33 ?_
        refine lv_astore (lv' := [(4, .ref (ad h)), (3, .ref (ad h)), (0, .ref x), (1, .int pl), (2, .int i)]) hx hb dX5_get_36 hl (by decide) rfl (fun ls hl => ?_)
        refine lv_aload hx hb dX5_get_38 (lv_at hl 0 rfl) ?_
        refine lv_iload_n hx hb dX5_get_40 rfl (lv_at hl 4 rfl) ?_
        refine k_vl S9 w8 (c_numberAt l _ q1 (q3 hk) i z5) q1 rfl (cwV 1 hts gX5_get_X1_numberAt rfl rfl rfl (by decide +kernel) ⟨Nat.le_of_ble_eq_true rfl, Nat.le_of_ble_eq_true rfl⟩) rfl hl.1 rfl (Nat.le_of_ble_eq_true rfl) dX5_get_41 ⟨Nat.le_of_ble_eq_true rfl, Nat.le_of_ble_eq_true rfl⟩ (fun v10 e10 => ?_)
        exact ew_l S9 hr hlk w8 (by rw [show sp_get S pl i = (v10, s_sc S (upd (s_c S) 2 v7)) from by have e8 := e7.symm.trans c_22; rw [e10, e7]; simp [sp_get, obj_some i_2 ho, e8, hk]]; exact ⟨rfl, ad, ar, hR8⟩) dX5_get_44 (by decide) (by decide)
    · rw [o_obj hk hm] at q1
      refine lv_astore_n (lv' := [(3, .ref (ad h)), (0, .ref x), (1, .int pl), (2, .int i)]) hx hb dX5_get_5 rfl hl (by decide) rfl (fun ls hl => ?_)
      refine lv_aload_n hx hb dX5_get_6 rfl (lv_at hl 1 rfl) ?_
      refine lv_aload_n hx hb dX5_get_7 rfl (lv_at hl 0 rfl) ?_
      refine lv_iload_n hx hb dX5_get_8 rfl (lv_at hl 3 rfl) ?_
      refine lv_iconst (v := 0) hx hb dX5_get_9 (by decide) ?_
      refine lv_bipush (v := 6) hx hb dX5_get_10 (by decide) ?_
      refine k_si S9 w (c_refusalAt_1 l _ q1 i 0 6) (va_cwS 4 hts gX5_get_X5_refusalAt rfl rfl rfl (by decide +kernel) ⟨Nat.le_of_ble_eq_true rfl, Nat.le_of_ble_eq_true rfl⟩) rfl hl.1 rfl (Nat.le_of_ble_eq_true rfl) dX5_get_12 ⟨Nat.le_of_ble_eq_true rfl, Nat.le_of_ble_eq_true rfl⟩ (fun v7 e7 => ?_)
      rw [← ref1_row (o := o) (i := i) (lo := 0) (hi := 6) (by omega)] at e7
      refine r_put (ref := "SpanMover") S9 w hR.1 rfl (by decide +kernel) tyX5_ok nmX5 4 (by decide) (by decide +kernel) (Or.inl rfl) rfl rfl rfl (Nat.le_of_ble_eq_true rfl) dX5_get_15 (fun ws8 H8 lc8 u8 w8 => ?_)
      have hR8 := RpX.sc w.2.1 hR u8 (oX_set sh li (s_c S) 2 (by decide) v7)
      replace hR8 : RpX G x sh li ad ar (s_u S, s_o S, s_s S, s_l S, upd (s_c S) 2 v7) ws8 := hR8
      have hx8 : hp ws8 x (.inr (3, [.ref sh, .ref li, .int (s_c S 0), .int (s_c S 1), .int v7, .int (s_c S 3), .int (s_c S 4), .int (s_c S 5), .int (s_c S 6)])) := hR8.1
      obtain ⟨dk, kd, q1, q2, q3, q4⟩ := hR8.2.2.2.1 h o ho
      rw [o_obj hk hm] at q1
      refine lv_aload_n hx hb dX5_get_18 rfl (lv_at hl 1 rfl) ?_
      refine r_get (ref := "SpanMover") S9 w8 hx8 rfl (by decide +kernel) 4 (by decide) (by decide +kernel) (Or.inl rfl) rfl dX5_get_19 ?_
      refine lv_if_ne (tgt := 45) hx hb dX5_get_22 (by decide) (fun c_22 => ?_) (fun c_22 => ?_)
      · refine lv_aload_n hx hb dX5_get_45 rfl (lv_at hl 1 rfl) ?_
        refine r_get (ref := "SpanMover") S9 w8 hx8 rfl (by decide +kernel) 4 (by decide) (by decide +kernel) (Or.inl rfl) rfl dX5_get_46 ?_
        refine lv_if_ne (tgt := 75) hx hb dX5_get_49 (by decide) (fun c_49 => ?_) (fun c_49 => absurd c_49 c_22)
        refine lv_lconst (v := 0) hx hb dX5_get_75 (by decide) ?_
        exact ew_l S9 hr hlk w8 (by rw [show sp_get S pl i = (0, s_sc S (upd (s_c S) 2 v7)) from by have e8 : ¬ ref1 (some o) i 0 6 = 0 := (by rw [← e7]; exact c_22); rw [e7]; simp [sp_get, obj_some i_2 ho, e8]]; exact ⟨rfl, ad, ar, hR8⟩) dX5_get_76 (by decide) (by decide)
      · obtain ⟨z1, z2, z3, z4⟩ := ref1_zero (a := 0) (b := 6) (e7.symm.trans c_22) (by decide) (by decide) (hI.ob ho).1
        have z5 := inE_in z3 (by have := (hI.ob ho).2; omega)
        refine lv_aload_n hx hb dX5_get_25 rfl (lv_at hl 0 rfl) ?_
        refine r_inst S9 w8 q1 (by decide) 0 (by decide) (by decide +kernel) (v := 0) rfl dX5_get_26 ?_
        refine lv_if_eq (tgt := 45) hx hb dX5_get_29 (by decide) (fun c_29 => ?_) (fun c_29 => absurd c_29 (by decide))
        refine lv_aload_n hx hb dX5_get_45 rfl (lv_at hl 1 rfl) ?_
        refine r_get (ref := "SpanMover") S9 w8 hx8 rfl (by decide +kernel) 4 (by decide) (by decide +kernel) (Or.inl rfl) rfl dX5_get_46 ?_
        refine lv_if_ne (tgt := 75) hx hb dX5_get_49 (by decide) (fun c_49 => absurd c_22 c_49) (fun c_49 => ?_)
        refine lv_aload_n hx hb dX5_get_52 rfl (lv_at hl 0 rfl) ?_
        refine r_inst S9 w8 q1 (by decide) 1 (by decide) (by decide +kernel) (v := 1) rfl dX5_get_53 ?_
        refine lv_if_eq (tgt := 75) hx hb dX5_get_56 (by decide) (fun c_56 => absurd c_56 (by decide)) (fun c_56 => ?_)
        refine lv_aload_n hx hb dX5_get_59 rfl (lv_at hl 0 rfl) ?_
        refine r_cast S9 w8 q1 (by decide) 1 (by decide) rfl (by decide +kernel) dX5_get_60 ?_
        refine lv_astore (lv' := [(4, .ref (ad h)), (3, .ref (ad h)), (0, .ref x), (1, .int pl), (2, .int i)]) hx hb dX5_get_63 hl (by decide) rfl (fun ls hl => ?_)
        refine lv_aload hx hb dX5_get_65 (lv_at hl 0 rfl) ?_
        refine lv_iload_n hx hb dX5_get_67 rfl (lv_at hl 4 rfl) ?_
        refine k_vq S9 w8 (c_objectAt l _ q1 (q4 hk hm) i z5) q1 rfl (cwV 1 hts gX5_get_X2_objectAt rfl rfl rfl (by decide +kernel) ⟨Nat.le_of_ble_eq_true rfl, Nat.le_of_ble_eq_true rfl⟩) rfl hl.1 rfl (Nat.le_of_ble_eq_true rfl) dX5_get_68 ⟨Nat.le_of_ble_eq_true rfl, Nat.le_of_ble_eq_true rfl⟩ (fun r10 e10 => ?_)
        subst e10
        refine k_sl S9 w8 (u_toldAs l _ hR8 (hI.sc _ rfl rfl) (o_e o i.toNatClampNeg) (hI.el ho hk hm _)) (va_cwS 1 hts gX5_get_X5_toldAs rfl rfl rfl (by decide +kernel) ⟨Nat.le_of_ble_eq_true rfl, Nat.le_of_ble_eq_true rfl⟩) rfl hl.1 rfl (Nat.le_of_ble_eq_true rfl) dX5_get_71 ⟨Nat.le_of_ble_eq_true rfl, Nat.le_of_ble_eq_true rfl⟩ (fun v11 e11 => ?_)
        exact ew_l S9 hr hlk w8 (by rw [show sp_get S pl i = (v11, s_sc S (upd (s_c S) 2 v7)) from by have e8 := e7.symm.trans c_22; have e11 : v11 = told (obj S (o_e o i.toNatClampNeg)) := e11; rw [e11, e7]; simp [sp_get, obj_some i_2 ho, e8, show ¬ o_k o ≤ 3 by omega]]; exact ⟨rfl, ad, ar, hR8⟩) dX5_get_74 (by decide) (by decide)
    · rw [o_thg hk] at q1
      refine lv_astore_n (lv' := [(3, .ref (ad h)), (0, .ref x), (1, .int pl), (2, .int i)]) hx hb dX5_get_5 rfl hl (by decide) rfl (fun ls hl => ?_)
      refine lv_aload_n hx hb dX5_get_6 rfl (lv_at hl 1 rfl) ?_
      refine lv_aload_n hx hb dX5_get_7 rfl (lv_at hl 0 rfl) ?_
      refine lv_iload_n hx hb dX5_get_8 rfl (lv_at hl 3 rfl) ?_
      refine lv_iconst (v := 0) hx hb dX5_get_9 (by decide) ?_
      refine lv_bipush (v := 6) hx hb dX5_get_10 (by decide) ?_
      refine k_si S9 w (c_refusalAt_2 l _ q1 i 0 6) (va_cwS 4 hts gX5_get_X5_refusalAt rfl rfl rfl (by decide +kernel) ⟨Nat.le_of_ble_eq_true rfl, Nat.le_of_ble_eq_true rfl⟩) rfl hl.1 rfl (Nat.le_of_ble_eq_true rfl) dX5_get_12 ⟨Nat.le_of_ble_eq_true rfl, Nat.le_of_ble_eq_true rfl⟩ (fun v7 e7 => ?_)
      rw [← ref1_thg (o := o) (i := i) (lo := 0) (hi := 6) hk] at e7
      refine r_put (ref := "SpanMover") S9 w hR.1 rfl (by decide +kernel) tyX5_ok nmX5 4 (by decide) (by decide +kernel) (Or.inl rfl) rfl rfl rfl (Nat.le_of_ble_eq_true rfl) dX5_get_15 (fun ws8 H8 lc8 u8 w8 => ?_)
      have hR8 := RpX.sc w.2.1 hR u8 (oX_set sh li (s_c S) 2 (by decide) v7)
      replace hR8 : RpX G x sh li ad ar (s_u S, s_o S, s_s S, s_l S, upd (s_c S) 2 v7) ws8 := hR8
      have hx8 : hp ws8 x (.inr (3, [.ref sh, .ref li, .int (s_c S 0), .int (s_c S 1), .int v7, .int (s_c S 3), .int (s_c S 4), .int (s_c S 5), .int (s_c S 6)])) := hR8.1
      obtain ⟨dk, kd, q1, q2, q3, q4⟩ := hR8.2.2.2.1 h o ho
      rw [o_thg hk] at q1
      refine lv_aload_n hx hb dX5_get_18 rfl (lv_at hl 1 rfl) ?_
      refine r_get (ref := "SpanMover") S9 w8 hx8 rfl (by decide +kernel) 4 (by decide) (by decide +kernel) (Or.inl rfl) rfl dX5_get_19 ?_
      refine lv_if_ne (tgt := 45) hx hb dX5_get_22 (by decide) (fun c_22 => ?_) (fun c_22 => ?_)
      · refine lv_aload_n hx hb dX5_get_45 rfl (lv_at hl 1 rfl) ?_
        refine r_get (ref := "SpanMover") S9 w8 hx8 rfl (by decide +kernel) 4 (by decide) (by decide +kernel) (Or.inl rfl) rfl dX5_get_46 ?_
        refine lv_if_ne (tgt := 75) hx hb dX5_get_49 (by decide) (fun c_49 => ?_) (fun c_49 => absurd c_49 c_22)
        refine lv_lconst (v := 0) hx hb dX5_get_75 (by decide) ?_
        exact ew_l S9 hr hlk w8 (by rw [show sp_get S pl i = (0, s_sc S (upd (s_c S) 2 v7)) from by have e8 : ¬ ref1 (some o) i 0 6 = 0 := (by rw [← e7]; exact c_22); rw [e7]; simp [sp_get, obj_some i_2 ho, e8]]; exact ⟨rfl, ad, ar, hR8⟩) dX5_get_76 (by decide) (by decide)
      · exact absurd ((ref1_thg hk).symm.trans (e7.symm.trans c_22)) (by decide)
