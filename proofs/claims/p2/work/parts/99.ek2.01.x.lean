
/-- an entry of the agenda names a task below n -/
def AEV (n e : Int) : Prop := (0 ≤ e ∧ e < n) ∨ (e < 0 ∧ -1 - e < n)
/-- the agenda: c entries -/
def AGE (n c : Int) (f : Nat → Int32) : Prop := 0 ≤ c ∧ c ≤ 416 ∧ ∀ i : Nat, (i : Int) < c → AEV n (f i).toInt
theorem AGE_u {n c : Int} {f f1 : Nat → Int32} {k : Nat} {v : Int32} (h : AGE n c f) (hv : AEV n v.toInt) (e : ∀ i, f1 i = if i = k then v else f i) : AGE n c f1 := ⟨h.1, h.2.1, fun i hi => by
  rw [e i]
  split
  · exact hv
  · exact h.2.2 i hi⟩
theorem AGE_p {n c c1 : Int} {f f1 : Nat → Int32} {k : Nat} {v : Int32} (h : AGE n c f) (hv : AEV n v.toInt) (hc : c1 = c + 1) (h1 : c1 ≤ 416) (hk : (k : Int) = c) (e : ∀ i, f1 i = if i = k then v else f i) : AGE n c1 f1 := ⟨by have := h.1; omega, h1, fun i hi => by
  rw [e i]
  split
  · exact hv
  · exact h.2.2 i (by omega)⟩
theorem AGE_g {n c : Int} {f : Nat → Int32} (h : AGE n c f) {i : Int32} (h0 : 0 ≤ i.toInt) (h1 : i.toInt < c) : AEV n (f (ix i)).toInt := h.2.2 _ (by rw [kx_int i h0]; exact h1)
/-- the row: c entries name tasks below n -/
def ROE (n c : Int) (f : Nat → Int32) : Prop := 0 ≤ c ∧ c ≤ 200 ∧ ∀ i : Nat, (i : Int) < c → 0 ≤ (f i).toInt ∧ (f i).toInt < n
theorem ROE_g {n c : Int} {f : Nat → Int32} (h : ROE n c f) {i : Int32} (h0 : 0 ≤ i.toInt) (h1 : i.toInt < c) : 0 ≤ (f (ix i)).toInt ∧ (f (ix i)).toInt < n := h.2.2 _ (by rw [kx_int i h0]; exact h1)
theorem ROE_u {n c : Int} {f f1 : Nat → Int32} {k : Nat} {v : Int32} (h : ROE n c f) (hv : 0 ≤ v.toInt ∧ v.toInt < n) (e : ∀ i, f1 i = if i = k then v else f i) : ROE n c f1 := ⟨h.1, h.2.1, fun i hi => by
  rw [e i]
  split
  · exact hv
  · exact h.2.2 i hi⟩
theorem ROE_p {n c c1 : Int} {f f1 : Nat → Int32} {k : Nat} {v : Int32} (h : ROE n c f) (hv : 0 ≤ v.toInt ∧ v.toInt < n) (hc : c1 = c + 1) (h1 : c1 ≤ 200) (hk : (k : Int) = c) (e : ∀ i, f1 i = if i = k then v else f i) : ROE n c1 f1 := ⟨by have := h.1; omega, h1, fun i hi => by
  rw [e i]
  split
  · exact hv
  · exact h.2.2 i (by omega)⟩
theorem ROE_d {n c c1 : Int} {f : Nat → Int32} (h : ROE n c f) (h0 : 0 ≤ c1) (h1 : c1 ≤ c) : ROE n c1 f := ⟨h0, by have := h.2.1; omega, fun i hi => h.2.2 i (by omega)⟩
