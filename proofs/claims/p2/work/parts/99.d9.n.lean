
def mI0 : List Value := [.int 0, .null, .int 0, .int 0, .null, .null, .null, .int 0, .int 0, .null, .null, .int 0, .int 0, .null, .null, .null, .null, .null, .null, .null, .null, .null, .null, .int 0, .null, .null, .null, .null, .null, .null, .null, .int 0, .null, .null, .null, .int 0, .null, .null, .null, .null, .null, .null, .null, .null, .null, .null, .null, .null, .null, .null, .null, .int 0, .null, .null, .null, .null, .null, .null, .null, .null, .null, .int 0, .int 0, .int 0, .int 0, .int 0, .int 0, .int 0, .int 0, .int 0, .int 0, .null, .null, .int 0, .int 0, .null, .null, .null, .null, .null, .null, .null, .null, .null, .null, .null, .null, .null, .null, .null, .null, .null, .null, .null, .null, .null, .null, .null, .int 0, .int 0, .int 0, .int 0, .int 0, .null, .null, .int 0, .null, .null, .null, .null, .int 0, .null, .null, .null, .null, .null, .null, .null, .null, .int 0, .null, .int 0, .int 0, .int 0, .int 0, .int 0, .int 0, .int 0]
def mPreI (dC : Nat → ClassId) (dI : Nat → Nat → Nat) (h0 a v sz : Nat) : Array Value → State → Prop := va_Pc [.ref h0] (fun U => U.heap.size = sz ∧ va_P (dC, dI) vwCl [(h0, .inr (12, mI0))] U.heap ∧ va_K (dC, dI) vwCl [] U ∧ va_D (fun _ => True) [(h0, .inr (12, mI0))] ∧ vk_R RX12 34 "routine wait put if else while break continue return fail try on finish letter tick yield child both first within clock " a U ∧ sx_F a v 120 bs_34 (va_A [(h0, .inr (12, mI0))] sz) U U.heap ∧ sj_F (va_A [(h0, .inr (12, mI0))] sz) U U.heap)
set_option maxHeartbeats 4000000 in
set_option maxRecDepth 1000000 in
theorem ct_X12_init (l : Launch) (dC : Nat → ClassId) (dI : Nat → Nat → Nat) (h0 a v sz : Nat) : Met l yX12_init (.code yX12_init cX12_init 6 none :: tb) ({ frames := 8, cells := 89, slots := 1127702, locals := 400 }) (mPreI dC dI h0 a v sz) (va_Qv (fun (_ : Unit) => True) (fun (_ : Unit) t => ∃ E : mE, E.1 = (dC, dI) ∧ E.2.1 = h0 ∧ va_P (dC, dI) vwCl (mW E mS1) t.heap ∧ va_K (dC, dI) vwCl (mT E) t ∧ va_D (va_A [(h0, .inr (12, mI0))] sz) (mW E mS1)) (va_A [(h0, .inr (12, mI0))] sz)) 89 1127702 (va_A [(h0, .inr (12, mI0))] sz) := by
  refine Met.ofW (cc := cX12_init) (maxL := 6) (ret := none) (by decide) rfl ?_
  intro p e s m args below meth c s₁ B hml hv
  obtain ⟨rfl, hsz, hP, hK, hD0, hvk, hsx, hsj⟩ := hv
  have hx := B.exec
  have hb := B.bytes
  have hr := B.returns
  have hts : ∀ w ∈ tb, w.before _ s = true := fun w h => atoms_spec (ws := (.code yX12_init cX12_init 6 none :: tb)) B.pre w (List.mem_cons_of_mem _ h)
  have hown : s.vm.findClass RX12 = some m.cls := findClass_of_methodNamed B.named
  have hlocks := B.notSynchronized
  have hin : meth.name = "<init>" := (name_of_methodNamed B.named B.method).1
  subst hsz
  have hD := hD0.self (sz := s.heap.size)
  generalize hAe : va_A [(h0, .inr (12, mI0))] s.heap.size = A at hD hsx hsj ⊢
  have hA : ∀ q : Nat, s.heap.size ≤ q → A q := fun q h => by rw [← hAe]; exact Or.inr h
  have hS : va_S A s.heap s.heap [] := va_S.rf
  have hl := lv_entry ([.ref h0]) (n := 6) (Nat.le_of_ble_eq_true rfl)
  rw [lg_entry_eq]
  generalize (lg_sl ([.ref h0]) ++ List.replicate (6 - (lg_sl ([.ref h0])).length) Slot.unset).toArray = ls at hl ⊢
  have hl : lv_has ls 6 [(0, .ref h0)] := hl
  have d0 : decode cX12_init 0 = .ok (.aload_n 0, 1) := by decide +kernel
  have d1 : decode cX12_init 1 = .ok (.invokespecial 18, 3) := by decide +kernel
  refine lv_aload_n hx hb d0 rfl (lv_at hl 0 rfl) ?_
  refine W.objInit hx hb hown (hts _ wd_1388) (hts _ wd_30) (hts _ wd_obj) rfl (by rw [hml]; exact hl.1) rfl d1 (Nat.le_of_ble_eq_true rfl) (Nat.le_of_ble_eq_true rfl) ?_
  refine W.eq (g2 := F0 m 4 ls []) rfl ?_
  refine mi_all hx hb hts hown hin hA hK hP hD hS hl hvk (Nat.le_of_ble_eq_true rfl) (Nat.le_of_ble_eq_true rfl) (fun E H locs e1 e2 e3 hK2 hP2 hD2 hS2 => ?_)
  subst e3
  subst e2
  refine ct_minit (nn := 120) (bs := bs_34) mS0 (fun S => S = mS1) (sp_minit 120 bs_34 (by decide) th_sp _ rfl) ⟨⟨hx, hb, hml, hown, hts⟩, by rw [e1]; exact hK2, hA⟩ ⟨by rw [e1]; exact hP2, hD2, hS2⟩ hvk hsx hsj (by decide) hl (Nat.le_of_ble_eq_true rfl) (Nat.le_of_ble_eq_true rfl) (Nat.le_of_ble_eq_true rfl) (Nat.le_of_ble_eq_true rfl) (fun S1 H locs pc ls1 hC hS1 hd => ?_)
  subst hS1
  exact W.vret hx hb hr (fun t ht hW => ⟨⟨(), rfl, trivial, E, e1, rfl, by rw [ht, ← e1]; exact hC.1, va_K.moved hW.alike hK2, hC.2.1⟩, hC.2.2.F ht⟩) hC.2.2.2.2 hd
