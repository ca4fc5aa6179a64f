/-! Reader.exchange: the reader takes another Text and gives its own away -/
abbrev b_Reader_exchange : ByteArray := prog_3_method_4_code
def y_Reader_exchange : MethodName := ⟨R_Reader, "exchange", "(LPartFormulas$Text;)LPartFormulas$Text;"⟩
theorem d_Reader_exchange_0 : decode b_Reader_exchange 0 = .ok (.aload_n 0, 1) := by decide +kernel
theorem d_Reader_exchange_1 : decode b_Reader_exchange 1 = .ok (.getfield 29, 3) := by decide +kernel
theorem d_Reader_exchange_4 : decode b_Reader_exchange 4 = .ok (.astore_n 2, 1) := by decide +kernel
theorem d_Reader_exchange_5 : decode b_Reader_exchange 5 = .ok (.aload_n 0, 1) := by decide +kernel
theorem d_Reader_exchange_6 : decode b_Reader_exchange 6 = .ok (.aload_n 1, 1) := by decide +kernel
theorem d_Reader_exchange_7 : decode b_Reader_exchange 7 = .ok (.putfield 29, 3) := by decide +kernel
theorem d_Reader_exchange_10 : decode b_Reader_exchange 10 = .ok (.aload_n 2, 1) := by decide +kernel
theorem d_Reader_exchange_11 : decode b_Reader_exchange 11 = .ok (.areturn, 1) := by decide +kernel
abbrev ws_Reader_exchange : List Cond := Cond.code y_Reader_exchange b_Reader_exchange 3 (some (.object "PartFormulas$Text")) :: wsAll
abbrev rm_Reader_exchange : Room := { frames := 0, cells := 0, slots := 0, locals := 0 }
set_option maxHeartbeats 4000000 in
set_option maxRecDepth 100000 in
theorem c_Reader_exchange (l : Launch) (ct dC : Nat → ClassId) (dI : Nat → Nat → Nat) (a0 : Nat → Nat) (r0 q1 : Nat) (sz : Nat) (o0 : Ob) : Met l y_Reader_exchange ws_Reader_exchange rm_Reader_exchange (bw_Pc [.ref (a0 0), .ref q1] (dC, dI) vwCl (tyA ct) [wReader ct a0 r0 o0] sz nx) (bw_Q (dC, dI) vwCl (some (.ref r0)) [wReader ct a0 q1 o0] (bw_A [adReader a0] sz)) 0 0 (bw_A [adReader a0] sz) := by
  refine Met.ofW (cc := b_Reader_exchange) (maxL := 3) (ret := (some (.object "PartFormulas$Text"))) (by decide) rfl ?_
  intro p e s m args below meth c s₁ B hml hv
  obtain ⟨rfl, hsz, hP, hK, hN0, hnx⟩ := hv
  have hx := B.exec
  have hb := B.bytes
  have hr := B.returns
  have hts : ∀ w ∈ wsAll, w.before [.ref (a0 0), .ref q1].toArray s = true := fun w h9 => atoms_spec (ws := ws_Reader_exchange) B.pre w (List.mem_cons_of_mem _ h9)
  have hown : s.vm.findClass R_Reader = some m.cls := findClass_of_methodNamed B.named
  have hlocks := B.notSynchronized
  subst hsz
  have hN : bw_N (bw_A [adReader a0] s.heap.size) [adReader a0] := hN0.self s.heap.size
  generalize hAe : bw_A [adReader a0] s.heap.size = A at hN ⊢
  have hS : va_S A s.heap s.heap [] := va_S.rf
  have hl := lv_entry ([.ref (a0 0), .ref q1]) (n := 3) (Nat.le_of_ble_eq_true rfl)
  rw [lg_entry_eq]
  generalize (lg_sl ([.ref (a0 0), .ref q1]) ++ List.replicate (3 - (lg_sl ([.ref (a0 0), .ref q1])).length) Slot.unset).toArray = ls at hl ⊢
  have hl : lv_has ls 3 [(0, .ref (a0 0)), (1, .ref q1)] := hl
  refine lv_aload_n hx hb d_Reader_exchange_0 rfl (lv_at hl 0 rfl) ?_
  refine va_get (D := (dC, dI)) (ci := 3) (v := .ref r0) (C := R_Reader) (T := T_Reader) (N := 12) hx hb hts in_Reader hown hK (hP 0 _ rfl) 0 rfl rfl 4 (by decide) (hts _ fl_Reader_29) (fun _ h9 => h9) rfl d_Reader_exchange_1 ?_
  refine lv_astore_n (lv' := [(2, .ref r0), (0, .ref (a0 0)), (1, .ref q1)]) hx hb d_Reader_exchange_4 rfl hl (by decide) rfl (fun ls hl => ?_)
  refine lv_aload_n hx hb d_Reader_exchange_5 rfl (lv_at hl 1 rfl) ?_
  refine lv_aload_n hx hb d_Reader_exchange_6 rfl (lv_at hl 2 rfl) ?_
  refine bw_put (D := (dC, dI)) (ci := 3) (v := .ref q1) (ty := .object "PartFormulas$Text") (C := R_Reader) (T := T_Reader) (N := 12) hx hb hts in_Reader ty_Reader tyok_Reader nm_Reader hown hK hP hN hS 0 0 rfl rfl rfl 4 (by decide) (hts _ fl_Reader_29) (fun _ h9 => h9) rfl (by decide +kernel) rfl rfl (Nat.le_of_ble_eq_true rfl) d_Reader_exchange_7 (fun H locs hP hS => ?_)
  have hP : bw_P (dC, dI) vwCl [wReader ct a0 q1 o0] H := hP
  refine lv_aload_n hx hb d_Reader_exchange_10 rfl (lv_at hl 0 rfl) ?_
  exact W.aret hx hb hr (Or.inl ⟨_, rfl⟩) (Or.inr ⟨_, rfl⟩) (fun t ht hW => ⟨rfl, by rw [ht]; exact hP, hS.F ht⟩) hS.2.2 d_Reader_exchange_11
