theorem wd_24 : (Jvm.Cond.classLink "SleepersLaw" (8 : Nat) "Sleepers") ∈ tb := tb_at 24 (by decide +kernel) (by decide +kernel)
theorem wd_25 : (Jvm.Cond.instantiable "Sleepers" (7 : Nat)) ∈ tb := tb_at 25 (by decide +kernel) (by decide +kernel)
theorem wd_26 : (Jvm.Cond.methodLink "SleepersLaw" (21 : Nat) ({ cls := "Sleepers", name := "<init>", desc := "()V" } : Jvm.MethodName)) ∈ tb := tb_at 26 (by decide +kernel) (by decide +kernel)
theorem wd_27 : (Jvm.Cond.instanceMethod ({ cls := "Sleepers", name := "<init>", desc := "()V" } : Jvm.MethodName)) ∈ tb := tb_at 27 (by decide +kernel) (by decide +kernel)
theorem wd_28 : (Jvm.Cond.code ({ cls := "Sleepers", name := "<init>", desc := "()V" } : Jvm.MethodName) prog_1_method_1_code (1 : Nat) (Option.none : Option Jvm.ClassFile.FieldType)) ∈ tb := tb_at 28 (by decide +kernel) (by decide +kernel)
theorem wd_1382 : (Jvm.Cond.instantiable "SleepersModel" (128 : Nat)) ∈ tb := tb_at 1382 (by decide +kernel) (by decide +kernel)
theorem wd_1384 : (Jvm.Cond.classLink "SleepersLaw" (22 : Nat) "SleepersModel") ∈ tb := tb_at 1384 (by decide +kernel) (by decide +kernel)
theorem wd_1385 : (Jvm.Cond.methodLink "SleepersLaw" (24 : Nat) ({ cls := "SleepersModel", name := "<init>", desc := "()V" } : Jvm.MethodName)) ∈ tb := tb_at 1385 (by decide +kernel) (by decide +kernel)
theorem wd_1386 : (Jvm.Cond.instanceMethod ({ cls := "SleepersModel", name := "<init>", desc := "()V" } : Jvm.MethodName)) ∈ tb := tb_at 1386 (by decide +kernel) (by decide +kernel)
set_option maxRecDepth 100000 in
theorem wd_1387 : (Jvm.Cond.code ({ cls := "SleepersModel", name := "<init>", desc := "()V" } : Jvm.MethodName) prog_14_method_4_code (6 : Nat) (Option.none : Option Jvm.ClassFile.FieldType)) ∈ tb := tb_at 1387 rfl (by decide +kernel)
set_option maxHeartbeats 8000000 in
set_option maxRecDepth 1000000 in
theorem whole_start3 {p : Program} {e : Env} {s : State} {m : MethodId} {below : List Frame} {meth : Method} {c : Code} (l : Launch) (hl9 : l.stackTraces = false) {b L : Nat} {xs : Nat → Int32} (hL : L ≤ 3584) (C0 : lw_At p s m meth c b L xs) {MI : Nat → Nat → mS → Prop} (LM : LawM MI) (hM0 : MI 0 0 mS1) (LKs : ∀ (ad : Nat → Nat) (fr : Nat → Int64) (oq : Nat), (∀ i j, i < 85 → j < 85 → ad i = ad j → i = j) → (∀ i, i < 85 → ad i ≠ oq) → ∃ KI : Nat → Nat → kS → Prop, LawK (ad 0) oq 86 KI ∧ KI 0 0 (k1S ad fr oq)) : W p l e room_1 s m #[Value.ref b] below meth c s.heap [] 0 0 (lw_Z below #[Value.ref b] s) (entryFrame m ([Value.ref b] : List Value).toArray 7) := by
  have C1 := C0
  obtain ⟨hx, hb, hr, hml, hown, hts0, hXs, hbl, hlocks, hgv⟩ := C0
  have hts : ∀ w ∈ tb, w.before _ s = true := fun w h => hts0 w (List.mem_filter.mp h).1
  have hs := flat_of_before _ hgv
  obtain ⟨A, hAeq⟩ : ∃ A : Nat → Prop, A = fun q : Nat => s.heap.size ≤ q := ⟨_, rfl⟩
  have hA : ∀ q : Nat, s.heap.size ≤ q → A q := by rw [hAeq]; exact fun _ h => h
  have hAn : ∀ q : Nat, q < s.heap.size → ¬ A q := by rw [hAeq]; exact fun _ h => Nat.not_le.mpr h
  obtain ⟨c0, iS0, hKn0⟩ := u_known (C := RX0) (T := TX0) (N := 3) (n := 3) hts in_X0 (hts _ wd_217)
  obtain ⟨c1, iS1, hKn1⟩ := u_known (C := RX1) (T := TX1) (N := 15) (n := 15) hts in_X1 (hts _ wd_194)
  obtain ⟨c2, iS2, hKn2⟩ := u_known (C := RX2) (T := TX2) (N := 2) (n := 2) hts in_X2 (hts _ wd_203)
  obtain ⟨c3, iS3, hKn3⟩ := u_known (C := RX3) (T := TX3) (N := 13) (n := 13) hts in_X3 (hts _ wd_126)
  obtain ⟨c4, iS4, hKn4⟩ := u_known (C := RX4) (T := TX4) (N := 12) (n := 12) hts in_X4 (hts _ wd_1051)
  obtain ⟨c5, iS5, hKn5⟩ := u_known (C := RX5) (T := TX5) (N := 14) (n := 14) hts in_X5 (hts _ wd_330)
  obtain ⟨c6, iS6, hKn6⟩ := u_known (C := RX6) (T := TX6) (N := 8) (n := 8) hts in_X6 (hts _ wd_294)
  obtain ⟨c7, iS7, hKn7⟩ := u_known (C := RX7) (T := TX7) (N := 12) (n := 12) hts in_X7 (hts _ wd_336)
  obtain ⟨c8, iS8, hKn8⟩ := u_known (C := RX8) (T := TX8) (N := 5) (n := 5) hts in_X8 (hts _ wd_172)
  obtain ⟨c9, iS9, hKn9⟩ := u_known (C := RX9) (T := TX9) (N := 20) (n := 20) hts in_X9 (hts _ wd_856)
  obtain ⟨c10, iS10, hKn10⟩ := u_known (C := RX10) (T := TX10) (N := 7) (n := 7) hts in_X10 (hts _ wd_33)
  obtain ⟨c11, iS11, hKn11⟩ := u_known (C := RX11) (T := TX11) (N := 7) (n := 7) hts in_X11 (hts _ wd_25)
  obtain ⟨c12, iS12, hKn12⟩ := u_known (C := RX12) (T := TX12) (N := 128) (n := 128) hts in_X12 (hts _ wd_1382)
  obtain ⟨dC, dI, hKc⟩ : ∃ (dC : Nat → ClassId) (dI : Nat → Nat → Nat), ∀ (k : Nat) (q : vw_C), vwCl[k]? = some q → u_Kn s q.1 q.2.1 q.2.2 (dC k) (dI k) := by
    refine ⟨fun k => [c0, c1, c2, c3, c4, c5, c6, c7, c8, c9, c10, c11, c12].getD k 0, fun k => [iS0, iS1, iS2, iS3, iS4, iS5, iS6, iS7, iS8, iS9, iS10, iS11, iS12].getD k (fun _ => 0), ?_⟩
    intro k q hq
    match k, hq with
    | 0, hq => cases hq; exact hKn0
    | 1, hq => cases hq; exact hKn1
    | 2, hq => cases hq; exact hKn2
    | 3, hq => cases hq; exact hKn3
    | 4, hq => cases hq; exact hKn4
    | 5, hq => cases hq; exact hKn5
    | 6, hq => cases hq; exact hKn6
    | 7, hq => cases hq; exact hKn7
    | 8, hq => cases hq; exact hKn8
    | 9, hq => cases hq; exact hKn9
    | 10, hq => cases hq; exact hKn10
    | 11, hq => cases hq; exact hKn11
    | 12, hq => cases hq; exact hKn12
    | k + 13, hq => simp [vwCl] at hq
  have hS : va_S A s.heap s.heap [] := va_S.rf
  have hK : va_K (dC, dI) vwCl [] s := ⟨hKc, fun k q h => by simp at h⟩
  have hP : va_P (dC, dI) vwCl [] s.heap := fun k q h => by simp at h
  have hD : va_D A [] := ⟨fun i j p q h => by simp at h, fun k q h => by simp at h⟩
  obtain ⟨aT, vT, hxT, hvT⟩ := lw_s29 (A := A) hgv hAn
  obtain ⟨aM, vM, hxM, hvM⟩ := lw_s34 (A := A) hgv hAn
  obtain ⟨aG, vG, hxG, hvG⟩ := lw_s66 (A := A) hgv hAn
  have hyT : vk_R RX10 29 "routine wait put if else while break continue return fail try on finish letter tick yield child both first within clock" aT s := vk_R.of (hts0 _ (tb_l 38 (by decide +kernel))) hvT
  have hyM : vk_R RX12 34 "routine wait put if else while break continue return fail try on finish letter tick yield child both first within clock " aM s := vk_R.of (hts0 _ (tb_l 1389 (by decide +kernel))) hvM
  have hyG : vk_R RX10 66 "{}(),;=<+-*/%" aG s := vk_R.of (hts0 _ (tb_l 536 (by decide +kernel))) hvG
  have hsj : sj_F A s s.heap := ⟨va_Zof (hts0 _ (tb_l 48 (by decide +kernel))) (hts0 _ (tb_l 3 (by decide +kernel))) (va_eqi (hs _ (by decide +kernel))) hAn, va_Zqof (hts0 _ (tb_l 64 (by decide +kernel))) (hts0 _ (tb_l 5 (by decide +kernel))) (hs _ (by decide +kernel)) hAn⟩
  have hy0 : va_Nw (.methodLinkNest RX11 27 yX8_init "Sleepers") s := va_Nw.of rfl (hts0 _ (tb_l 173 (by decide +kernel)))
  have hy1 : va_Nw (.methodLinkNest RX11 50 yX5_init "Sleepers") s := va_Nw.of rfl (hts0 _ (tb_l 331 (by decide +kernel)))
  have hy2 : va_Nw (.methodLinkNest RX5 23 yX7_init "Sleepers") s := va_Nw.of rfl (hts0 _ (tb_l 337 (by decide +kernel)))
  have hy3 : va_Nw (.methodLinkNest RX6 11 yX0_init "Sleepers") s := va_Nw.of rfl (hts0 _ (tb_l 300 (by decide +kernel)))
  have hy4 : va_Nw (.methodLinkNest RX1 33 yX2_init "Sleepers") s := va_Nw.of rfl (hts0 _ (tb_l 204 (by decide +kernel)))
  have hy5 : va_Nw (.methodLinkNest RX1 40 yX0_init "Sleepers") s := va_Nw.of rfl (hts0 _ (tb_l 218 (by decide +kernel)))
  have hy6 : va_AO RX9 s := va_AO.of (hts0 _ (tb_l 200 (by decide +kernel)))
  have hy7 : va_AO RX2 s := va_AO.of (hts0 _ (tb_l 202 (by decide +kernel)))
  have hyP : va_Nw (.methodLinkNest RX1 134 yX4_init "Sleepers") s := va_Nw.of rfl (hts0 _ (tb_l 1052 (by decide +kernel)))
  have hd1 : va_Nw (.declares ⟨"java/lang/RuntimeException", "<init>", "(Ljava/lang/String;)V"⟩) s := va_Nw.of rfl (hts0 _ (tb_l 1292 (by decide +kernel)))
  have hd2 : va_Nw (.declares ⟨"java/lang/Exception", "<init>", "(Ljava/lang/String;)V"⟩) s := va_Nw.of rfl (hts0 _ (tb_l 1294 (by decide +kernel)))
  have hd3 : va_Nw (.declares ⟨"java/lang/Throwable", "<init>", "(Ljava/lang/String;)V"⟩) s := va_Nw.of rfl (hts0 _ (tb_l 1296 (by decide +kernel)))
  have hd4 : va_Nw (.castable "java/util/NoSuchElementException" "java/util/NoSuchElementException") s := va_Nw.of rfl (hts0 _ (tb_l 1290 (by decide +kernel)))
  have hd5 : vx_Zq Bundle.tN "UNASSIGNED_STACK" Bundle.steD A s s.heap := vx_Zqof (hts0 _ (tb_l 1315 (by decide +kernel))) (hts0 _ (tb_l 18 (by decide +kernel))) (hs _ (by decide +kernel)) hAn
  have hd6 : vx_Zq Bundle.tN "SUPPRESSED_SENTINEL" Bundle.listD A s s.heap := vx_Zqof (hts0 _ (tb_l 1317 (by decide +kernel))) (hts0 _ (tb_l 18 (by decide +kernel))) (hs _ (by decide +kernel)) hAn
  obtain ⟨sa1, hvsa1⟩ := lw_ref (t := .string "Sleepers" 103) (hs _ (by decide +kernel))
  have hysa1 : vk_R RX11 103 "no such routine" sa1 s := vk_R.of (hts0 _ (tb_l 1327 (by decide +kernel))) hvsa1
  obtain ⟨sa2, hvsa2⟩ := lw_ref (t := .string "Sleepers" 161) (hs _ (by decide +kernel))
  have hysa2 : vk_R RX11 161 "no such task" sa2 s := vk_R.of (hts0 _ (tb_l 1361 (by decide +kernel))) hvsa2
  obtain ⟨sa3, hvsa3⟩ := lw_ref (t := .string "Sleepers" 173) (hs _ (by decide +kernel))
  have hysa3 : vk_R RX11 173 "no such cell" sa3 s := vk_R.of (hts0 _ (tb_l 1373 (by decide +kernel))) hvsa3
  have hV : vZ (sa1, sa2, sa3) A s s.heap := ⟨hd1, hd2, hd3, hd4, hd5, hd6, hysa1, hysa2, hysa3⟩
  have hl := lv_entry ([.ref b]) (n := 7) (Nat.le_of_ble_eq_true rfl)
  rw [lg_entry_eq]
  generalize (lg_sl ([.ref b]) ++ List.replicate (7 - (lg_sl ([.ref b])).length) Slot.unset).toArray = ls at hl ⊢
  have hl : lv_has ls 7 [(0, .ref b)] := hl
  refine va_new (ci := 11) (fs := [.null, .null, .null, .null, .null, .null, .null]) (C := RX11) (T := TX11) (N := 7) hx hb hts in_X11 tyX11 tyX11_ok hown (hts _ wd_24) (hts _ wd_25) (hts _ wd_1) hK hP hD hS hA rfl df_X11 (Nat.le_of_ble_eq_true rfl) (Nat.le_of_ble_eq_true rfl) dL_law_0 (fun q1 H hP hD hS => ?_)
  refine W.widen (k := 1) (n := 7) (Nat.le_of_ble_eq_true rfl) (Nat.le_of_ble_eq_true rfl) ?_
  refine lv_dup hx hb dL_law_3 rfl ?_
  replace hP : va_P (dC, dI) vwCl [(q1, .inr (11, [.null, .null, .null, .null, .null, .null, .null]))] H := hP
  replace hD : va_D A [(q1, .inr (11, [.null, .null, .null, .null, .null, .null, .null]))] := hD
  have hFc : ∀ q, va_A [(q1, .inr (11, [.null, .null, .null, .null, .null, .null, .null]))] H.size q → A q := va_free (wc := [(q1, .inr (11, [.null, .null, .null, .null, .null, .null, .null]))]) hD hS hA [0] rfl
  refine va_callv (va_runI (As := []) (rest := [.ref q1]) ⟨hx, hb, hml, hown, hts⟩ (ct_X11_init l dC dI q1 aT vT 119 bs_29 H.size (by decide)) (cwI 0 hts (gd_c wd_28) rfl rfl rfl (hts _ wd_1) (hts _ wd_26) (hts _ wd_27) rfl (by decide +kernel) ⟨(Nat.le_of_ble_eq_true rfl), (Nat.le_of_ble_eq_true rfl)⟩) ⟨fun a U g mk q => by obtain ⟨q0, q1, qP, qK, qD, qZ0, qZ1, qZ2, qZ3, qZ4, qZ5, qZ6, qZ7, qZ8, qZ9, qZ10⟩ := q; exact ⟨q0, q1, qP, va_K.moved (u := U) (U := U.calling g mk a) (Vm.Alike.refl U.vm) qK, qD, vk_R.same (u := U) rfl qZ0, sx_F.moved (u := U) (U := U.calling g mk a) (Vm.Alike.refl U.vm) qZ1, sj_F.moved (u := U) (U := U.calling g mk a) (Vm.Alike.refl U.vm) qZ2, va_Nw.same (u := U) rfl rfl qZ3, va_Nw.same (u := U) rfl rfl qZ4, va_Nw.same (u := U) rfl rfl qZ5, va_Nw.same (u := U) rfl rfl qZ6, va_Nw.same (u := U) rfl rfl qZ7, va_Nw.same (u := U) rfl rfl qZ8, va_AO.moved (u := U) (Vm.Alike.refl U.vm) qZ9, va_AO.moved (u := U) (Vm.Alike.refl U.vm) qZ10⟩, fun U hU hW => ⟨rfl, by rw [hU], by rw [hU]; exact hP, va_K.moved hW.alike hK, hD.weaken (fun _ _ _ _ => trivial), vk_R.warm hW hyT, (by rw [hU]; exact ((hxT.kept hS.2.1).narrow hFc).moved hW.alike), (by rw [hU]; exact ((hsj.kept hS.2.1).narrow hFc).moved hW.alike), va_Nw.warmM hW hy0, va_Nw.warmM hW hy1, va_Nw.warmM hW hy2, va_Nw.warmM hW hy3, va_Nw.warmM hW hy4, va_Nw.warmM hW hy5, va_AO.moved hW.alike hy6, va_AO.moved hW.alike hy7⟩⟩ rfl rfl hl.1 rfl (lv_room (Nat.le_of_ble_eq_true rfl)) dL_law_4 ⟨(Nat.le_of_ble_eq_true rfl), (Nat.le_of_ble_eq_true rfl)⟩) hS (fun q _ h => hFc q h) hFc (fun u t H1 locs ht hvm hw hB hz1 hk1 hS => ?_)
  obtain ⟨tk, pa, ta, ha, ru, to, sp, kd, pl, va, tp, rs, kkd, kpl, kva, ktp, krs, fr, qp, kp, qa, ka, qh, kh, xt, kxt, ln, kln, al, lo, ql, kl, l0, l1, l2, l3, l4, l5, l6, l7, qr, kr, pu, qu, ku, qt, kt, ts, qts, kts, qs, ks, ss, qss, kss, hP1, hK1, hD1⟩ := hB
  rw [ht] at hP1
  have hK1 := va_K.moved hvm.symm hK1
  replace hD1 := hD1.weaken (fun k q _ h => hFc q.1 h)
  obtain ⟨K, ad, e0, hin, hPk, hKk, hDk⟩ := k0_world q1 tk pa ta ha ru to sp kd pl va tp rs kkd kpl kva ktp krs fr qp kp qa ka qh kh xt kxt ln kln al lo ql kl l0 l1 l2 l3 l4 l5 l6 l7 qr kr pu qu ku qt kt ts qts kts qs ks ss qss kss (aG, vG, 13, bs_66) hP1 hK1 hD1
  obtain ⟨E, hE⟩ : ∃ E : kE, E = ((dC, dI), K, (aG, vG, 13, bs_66)) := ⟨_, rfl⟩
  rw [← hE] at hPk hKk hDk
  have hE1 : E.1 = (dC, dI) := by rw [hE]
  clear hP1 hD1 hP hD
  subst e0
  refine W.widen (k := 85) (n := 95022) (Nat.le_of_ble_eq_true rfl) (Nat.le_of_ble_eq_true rfl) ?_
  refine lv_astore_n (lv' := [(1, .ref (ad 0)), (0, .ref b)]) hx hb dL_law_7 rfl hl (by decide) rfl (fun ls hl => ?_)
  refine va_new (ci := 12) (fs := mI0) (C := RX12) (T := TX12) (N := 128) hx hb hts in_X12 tyX12 tyX12_ok hown (hts _ wd_1384) (hts _ wd_1382) (hts _ wd_15) hK hPk hDk hS hA rfl df_X12 (Nat.le_of_ble_eq_true rfl) (Nat.le_of_ble_eq_true rfl) dL_law_8 (fun q2 H2 hP hD hS => ?_)
  refine W.widen (k := 86) (n := 95150) (Nat.le_of_ble_eq_true rfl) (Nat.le_of_ble_eq_true rfl) ?_
  refine lv_dup hx hb dL_law_11 rfl ?_
  replace hPk := P_appL hP
  have hPm := P_appR hP
  replace hDk := D_appL hD
  have hDm := D_appR hD
  have hap := Apart_symm (D_apart hD)
  clear hP hD
  have hFc : ∀ q, va_A [(q2, .inr (12, mI0))] H2.size q → A q := va_free (wc := [(q2, .inr (12, mI0))]) hDm hS hA [0] rfl
  refine va_callv (va_runI (As := []) (rest := [.ref q2]) ⟨hx, hb, hml, hown, hts⟩ (ct_X12_init l dC dI q2 aM vM H2.size) (cwI 0 hts (gd_c wd_1387) rfl rfl rfl (hts _ wd_15) (hts _ wd_1385) (hts _ wd_1386) rfl (by decide +kernel) ⟨(Nat.le_of_ble_eq_true rfl), (Nat.le_of_ble_eq_true rfl)⟩) ⟨fun a U g mk q => by obtain ⟨q0, q1, qP, qK, qD, qZ0, qZ1, qZ2⟩ := q; exact ⟨q0, q1, qP, va_K.moved (u := U) (U := U.calling g mk a) (Vm.Alike.refl U.vm) qK, qD, vk_R.same (u := U) rfl qZ0, sx_F.moved (u := U) (U := U.calling g mk a) (Vm.Alike.refl U.vm) qZ1, sj_F.moved (u := U) (U := U.calling g mk a) (Vm.Alike.refl U.vm) qZ2⟩, fun U hU hW => ⟨rfl, by rw [hU], by rw [hU]; exact hPm, va_K.moved hW.alike hK, hDm.weaken (fun _ _ _ _ => trivial), vk_R.warm hW hyM, (by rw [hU]; exact ((hxM.kept hS.2.1).narrow hFc).moved hW.alike), (by rw [hU]; exact ((hsj.kept hS.2.1).narrow hFc).moved hW.alike)⟩⟩ rfl rfl hl.1 rfl (lv_room (Nat.le_of_ble_eq_true rfl)) dL_law_12 ⟨(Nat.le_of_ble_eq_true rfl), (Nat.le_of_ble_eq_true rfl)⟩) hS (fun q _ h => hFc q h) hFc (fun u t H3 locs ht hvm hw hB hz1 hk1 hS => ?_)
  obtain ⟨Em, e1, e2, hPm2, hKm0, hDm2⟩ := hB
  rw [ht] at hPm2
  have hKm := va_K.moved hvm.symm hKm0
  have hB2 := keepB (D := (dC, dI)) hPk hap hk1 hDm2
  have hPk2 := hB2.1
  have hap2 := Apart_symm hB2.2
  have hDm3 := hDm2.weaken (fun k q _ h => hFc q.1 h)
  subst e2
  refine W.widen (k := 175) (n := 1222852) (Nat.le_of_ble_eq_true rfl) (Nat.le_of_ble_eq_true rfl) ?_
  refine lv_astore_n (lv' := [(2, .ref Em.2.1), (1, .ref (ad 0)), (0, .ref b)]) hx hb dL_law_15 rfl hl (by decide) rfl (fun ls hl => ?_)
  refine lv_iconst (v := 1) hx hb dL_law_16 (by decide) ?_
  refine va_newa (D := (dC, dI)) (atype := .long) (a0 := (1, .inr (.inl (fun _ => 0)))) hx hb (hts _ wd_122) rfl hKk (hPk2.app hPm2) (D_app hDk hDm3 hap2) hS hA (fun _ => rfl) (by decide) (by decide) (by decide) (Nat.le_of_ble_eq_true rfl) (Nat.le_of_ble_eq_true rfl) dL_law_17 (fun oq ko H4 hKo hP hD hS => ?_)
  refine W.widen (k := 176) (n := 1222900) (Nat.le_of_ble_eq_true rfl) (Nat.le_of_ble_eq_true rfl) ?_
  refine lv_astore_n (lv' := [(3, .ref oq), (2, .ref Em.2.1), (1, .ref (ad 0)), (0, .ref b)]) hx hb dL_law_19 rfl hl (by decide) rfl (fun ls hl => ?_)
  refine lv_iconst (v := 0) hx hb dL_law_20 (by decide) ?_
  refine lv_istore (lv' := [(4, .int 0), (3, .ref oq), (2, .ref Em.2.1), (1, .ref (ad 0)), (0, .ref b)]) hx hb dL_law_21 hl (by decide) rfl (fun ls hl => ?_)
  have hPk := P_appL (P_appL hP)
  have hPm := P_appR (P_appL hP)
  have hPo := P_appR hP
  have hDk := D_appL (D_appL hD)
  have hDm := D_appR (D_appL hD)
  have hDo := D_appR hD
  have ha1 := D_apart (D_appL hD)
  have ha2 := D_apart hD
  have eko : ko = E.2.1 1 := kK_uni hKo (i := 5) (j := 1) rfl rfl
  subst eko
  have hoq : ∀ i, i < 85 → ad i ≠ oq := by
    intro i hi e9
    have hm := k0mem2 (ad := ad) hi
    obtain ⟨k9, -, hk9⟩ := cW_at (E := E) (S := k0S ad fr) hm
    refine ha2 k9 0 _ _ (by rw [List.getElem?_append_left (List.getElem?_eq_some_iff.mp hk9).1]; exact hk9) rfl ?_
    show (cC E (k0S ad fr) (ad i, k0kd i)).1 = oq
    have e8 : ∀ w9 : Nat × cK, (cC E (k0S ad fr) w9).1 = w9.1 := fun w9 => by unfold cC; cases w9.2 <;> rfl
    rw [e8]; exact e9
  obtain ⟨KI, LK, hK0⟩ := LKs ad fr oq hin hoq
  have hapk : Apart (cW E (k0S ad fr)) [(oq, .inl (E.2.1 1, 1, .inr (.inl (fun _ => 0))))] := fun i j p q hp hq => ha2 i j p q (by rw [List.getElem?_append_left (List.getElem?_eq_some_iff.mp hp).1]; exact hp) hq
  have hapm : Apart [(oq, .inl (E.2.1 1, 1, .inr (.inl (fun _ => 0))))] (mW Em mS1) := fun i j p q hp hq z => ha2 ((cW E (k0S ad fr)).length + j) i q p (by rw [List.getElem?_append_right (Nat.le_add_right _ _), Nat.add_sub_cancel_left]; exact hq) hp z.symm
  have hPk1 : va_P E.1 vwCl (cW E (k1S ad fr oq)) H4 := by rw [k1_cW hoq, hE1]; exact hPk.app hPo
  have hDk1 : va_D A (cW E (k1S ad fr oq)) := by rw [k1_cW hoq]; exact D_app hDk hDo hapk
  have hapf : Apart (cW E (k1S ad fr oq)) (mW Em mS1) := by
    rw [k1_cW hoq]
    intro i j p q hp hq z
    rcases Nat.lt_or_ge i (cW E (k0S ad fr)).length with h9 | h9
    · rw [List.getElem?_append_left h9] at hp; exact ha1 i j p q hp hq z
    · rw [List.getElem?_append_right h9] at hp; exact hapm _ j p q hp hq z
  have hKc : va_K E.1 vwCl (cT E) s := by rw [hE1]; exact hKk
  have hZ : kZ E A s s.heap := by rw [hE]; exact ⟨hyG, hxG, hsj, hyP, (by decide : (13 : Nat) < 2 ^ 30)⟩
  have fin := law_loop (e := e) (below := below) hl9 hV C1 hAeq hL ⟨⟨hx, hb, hml, hown, hts⟩, hKc, hA, hZ⟩ ⟨⟨hx, hb, hml, hown, hts⟩, by rw [e1]; exact hKm, hA⟩ LK LM L 0 0 (k1S ad fr oq) mS1 H4 locs ls (by omega) (by omega) hK0 hM0 ⟨hPk1, hDk1, hS⟩ ⟨by rw [e1]; exact hPm, hDm, hS⟩ hapf (lv_sub hl [4, 3, 2, 1, 0] rfl)
  have hc0 : cnt (k1S ad fr oq) = 86 := rfl
  rw [hc0] at fin
  exact fin
