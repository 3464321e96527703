
theorem TX_m {m e e1 k D : Int} {V W : PV} (h : TX m e k D V W) (he : e ≤ e1) : TX m e1 k D V W := ⟨h.1, h.2.1, h.2.2.1, h.2.2.2.1, h.2.2.2.2.1, fun q => ⟨fun s => EX_m ((h.2.2.2.2.2 q).1 s) he, (h.2.2.2.2.2 q).2⟩⟩
theorem BG_tx {m e k D c c1 : Int} {V W : PV} (h : TX m e k D V W) (hB : BG c V) (hc : c + e ≤ c1) : BG c1 W := fun q => by
  have x : W.1 17 + 2 * V.1 6 ≤ V.1 17 + 2 * W.1 6 + e := ((h.2.2.2.2.2 q).1 0).2.2.1
  have := hB (h.1.2.1 q)
  omega
theorem TY_tx {m e k D : Int} {V W : PV} (h : TX m e k D V W) : TY (-2) W := fun q => (h.2.2.2.2.2 q).2.2.1
theorem TX_tk {m e k D : Int} {V W W1 : PV} (h : TX m e k D V W) (hv : VF [6] [] W W1) (hR : Rx 0 W W1) : TX m e k D V W1 := TX_at h hv (fun q => by have x := (hR.2.2.2.2 q).2.2.1; have y := hv.1 17 (by decide); omega) (hR.1 h.2.1)
