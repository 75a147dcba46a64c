/-! calls by how many values they take; loops; the shape of the class's cells and of the model's -/
section XV
variable {ω : xO} {κ : xK} {l : Launch} {cc : ByteArray} {nL : Nat} {own : String} {R : Room} {pc : Nat} {lv : List (Option Value)} {rest : List Value} {M Mf : xMem} {y : MethodName} {rm : Room} {mL idx k ci : Nat} {fs : List (Option Nat)}
theorem x_V0i {r : Value} (h : xOk ω κ l cc nL own R) (hd : decode cc pc = .ok (.invokevirtual idx, 3)) (hlk : Cond.methodLink own idx y ∈ xtbl) (hin : Cond.instanceMethod y ∈ xtbl) (hse : Cond.selects y.cls y y ∈ xtbl) (hs : (xsh ω)[k]? = some (.inr (.inl (ci, fs)))) (hcl : (xcl[ci]?).map (fun q => q.1) = some y.cls) (hrm : rm.frames + 1 ≤ R.frames ∧ 8 + (mL + 11) + rm.locals ≤ R.locals) (hcat : Nat.ble (rest.map fun v => v.category).sum 8 = true)
    (hct : Ct l ω y rm mL 0 (.ref (xad ω k) :: []) M (some r) Mf) (kk : X ω κ (pc + 3) lv (r :: rest) Mf) : X ω κ pc lv (.ref (xad ω k) :: rest) M :=
  x_callV (As := []) h hd hlk hin hse hs hcl hrm rfl rfl hcat hct kk
theorem x_V0v (h : xOk ω κ l cc nL own R) (hd : decode cc pc = .ok (.invokevirtual idx, 3)) (hlk : Cond.methodLink own idx y ∈ xtbl) (hin : Cond.instanceMethod y ∈ xtbl) (hse : Cond.selects y.cls y y ∈ xtbl) (hs : (xsh ω)[k]? = some (.inr (.inl (ci, fs)))) (hcl : (xcl[ci]?).map (fun q => q.1) = some y.cls) (hrm : rm.frames + 1 ≤ R.frames ∧ 8 + (mL + 11) + rm.locals ≤ R.locals) (hcat : Nat.ble (rest.map fun v => v.category).sum 8 = true)
    (hct : Ct l ω y rm mL 0 (.ref (xad ω k) :: []) M none Mf) (kk : X ω κ (pc + 3) lv rest Mf) : X ω κ pc lv (.ref (xad ω k) :: rest) M :=
  x_callV (As := []) h hd hlk hin hse hs hcl hrm rfl rfl hcat hct kk
theorem x_V1i {va : Value} {r : Value} (h : xOk ω κ l cc nL own R) (hd : decode cc pc = .ok (.invokevirtual idx, 3)) (hlk : Cond.methodLink own idx y ∈ xtbl) (hin : Cond.instanceMethod y ∈ xtbl) (hse : Cond.selects y.cls y y ∈ xtbl) (hs : (xsh ω)[k]? = some (.inr (.inl (ci, fs)))) (hcl : (xcl[ci]?).map (fun q => q.1) = some y.cls) (hrm : rm.frames + 1 ≤ R.frames ∧ 8 + (mL + 11) + rm.locals ≤ R.locals) (hcat : Nat.ble (rest.map fun v => v.category).sum 8 = true)
    (hct : Ct l ω y rm mL 1 (.ref (xad ω k) :: [va]) M (some r) Mf) (kk : X ω κ (pc + 3) lv (r :: rest) Mf) : X ω κ pc lv (va :: .ref (xad ω k) :: rest) M :=
  x_callV (As := [va]) h hd hlk hin hse hs hcl hrm rfl rfl hcat hct kk
theorem x_S1i {va : Value} {r : Value} (h : xOk ω κ l cc nL own R) (hd : decode cc pc = .ok (.invokestatic idx, 3)) (hlk : Cond.methodLink own idx y ∈ xtbl) (hstt : Cond.static y ∈ xtbl) (hrm : rm.frames + 1 ≤ R.frames ∧ 8 + (mL + 11) + rm.locals ≤ R.locals) (hcat : Nat.ble (rest.map fun v => v.category).sum 8 = true)
    (hct : Ct l ω y rm mL 1 [va] M (some r) Mf) (kk : X ω κ (pc + 3) lv (r :: rest) Mf) : X ω κ pc lv (va :: rest) M :=
  x_callS (As := [va]) h hd hlk hstt hrm rfl rfl hcat hct kk
theorem x_N1i {va : Value} {r : Value} (h : xOk ω κ l cc nL own R) (hd : decode cc pc = .ok (.invokestatic idx, 3)) (hlk : Cond.methodLinkNest own idx y "StrangerRopes" ∈ lw_tbl) (hstt : Cond.static y ∈ xtbl) (hrm : rm.frames + 1 ≤ R.frames ∧ 8 + (mL + 11) + rm.locals ≤ R.locals) (hcat : Nat.ble (rest.map fun v => v.category).sum 8 = true)
    (hct : Ct l ω y rm mL 1 [va] M (some r) Mf) (kk : X ω κ (pc + 3) lv (r :: rest) Mf) : X ω κ pc lv (va :: rest) M :=
  x_callSN (As := [va]) h hd hlk hstt hrm rfl rfl hcat hct kk
theorem x_V1v {va : Value} (h : xOk ω κ l cc nL own R) (hd : decode cc pc = .ok (.invokevirtual idx, 3)) (hlk : Cond.methodLink own idx y ∈ xtbl) (hin : Cond.instanceMethod y ∈ xtbl) (hse : Cond.selects y.cls y y ∈ xtbl) (hs : (xsh ω)[k]? = some (.inr (.inl (ci, fs)))) (hcl : (xcl[ci]?).map (fun q => q.1) = some y.cls) (hrm : rm.frames + 1 ≤ R.frames ∧ 8 + (mL + 11) + rm.locals ≤ R.locals) (hcat : Nat.ble (rest.map fun v => v.category).sum 8 = true)
    (hct : Ct l ω y rm mL 1 (.ref (xad ω k) :: [va]) M none Mf) (kk : X ω κ (pc + 3) lv rest Mf) : X ω κ pc lv (va :: .ref (xad ω k) :: rest) M :=
  x_callV (As := [va]) h hd hlk hin hse hs hcl hrm rfl rfl hcat hct kk
theorem x_S1v {va : Value} (h : xOk ω κ l cc nL own R) (hd : decode cc pc = .ok (.invokestatic idx, 3)) (hlk : Cond.methodLink own idx y ∈ xtbl) (hstt : Cond.static y ∈ xtbl) (hrm : rm.frames + 1 ≤ R.frames ∧ 8 + (mL + 11) + rm.locals ≤ R.locals) (hcat : Nat.ble (rest.map fun v => v.category).sum 8 = true)
    (hct : Ct l ω y rm mL 1 [va] M none Mf) (kk : X ω κ (pc + 3) lv rest Mf) : X ω κ pc lv (va :: rest) M :=
  x_callS (As := [va]) h hd hlk hstt hrm rfl rfl hcat hct kk
theorem x_N1v {va : Value} (h : xOk ω κ l cc nL own R) (hd : decode cc pc = .ok (.invokestatic idx, 3)) (hlk : Cond.methodLinkNest own idx y "StrangerRopes" ∈ lw_tbl) (hstt : Cond.static y ∈ xtbl) (hrm : rm.frames + 1 ≤ R.frames ∧ 8 + (mL + 11) + rm.locals ≤ R.locals) (hcat : Nat.ble (rest.map fun v => v.category).sum 8 = true)
    (hct : Ct l ω y rm mL 1 [va] M none Mf) (kk : X ω κ (pc + 3) lv rest Mf) : X ω κ pc lv (va :: rest) M :=
  x_callSN (As := [va]) h hd hlk hstt hrm rfl rfl hcat hct kk
theorem x_V2i {va vb : Value} {r : Value} (h : xOk ω κ l cc nL own R) (hd : decode cc pc = .ok (.invokevirtual idx, 3)) (hlk : Cond.methodLink own idx y ∈ xtbl) (hin : Cond.instanceMethod y ∈ xtbl) (hse : Cond.selects y.cls y y ∈ xtbl) (hs : (xsh ω)[k]? = some (.inr (.inl (ci, fs)))) (hcl : (xcl[ci]?).map (fun q => q.1) = some y.cls) (hrm : rm.frames + 1 ≤ R.frames ∧ 8 + (mL + 11) + rm.locals ≤ R.locals) (hcat : Nat.ble (rest.map fun v => v.category).sum 8 = true)
    (hct : Ct l ω y rm mL 2 (.ref (xad ω k) :: [va, vb]) M (some r) Mf) (kk : X ω κ (pc + 3) lv (r :: rest) Mf) : X ω κ pc lv (vb :: va :: .ref (xad ω k) :: rest) M :=
  x_callV (As := [va, vb]) h hd hlk hin hse hs hcl hrm rfl rfl hcat hct kk
theorem x_S2i {va vb : Value} {r : Value} (h : xOk ω κ l cc nL own R) (hd : decode cc pc = .ok (.invokestatic idx, 3)) (hlk : Cond.methodLink own idx y ∈ xtbl) (hstt : Cond.static y ∈ xtbl) (hrm : rm.frames + 1 ≤ R.frames ∧ 8 + (mL + 11) + rm.locals ≤ R.locals) (hcat : Nat.ble (rest.map fun v => v.category).sum 8 = true)
    (hct : Ct l ω y rm mL 2 [va, vb] M (some r) Mf) (kk : X ω κ (pc + 3) lv (r :: rest) Mf) : X ω κ pc lv (vb :: va :: rest) M :=
  x_callS (As := [va, vb]) h hd hlk hstt hrm rfl rfl hcat hct kk
theorem x_N2i {va vb : Value} {r : Value} (h : xOk ω κ l cc nL own R) (hd : decode cc pc = .ok (.invokestatic idx, 3)) (hlk : Cond.methodLinkNest own idx y "StrangerRopes" ∈ lw_tbl) (hstt : Cond.static y ∈ xtbl) (hrm : rm.frames + 1 ≤ R.frames ∧ 8 + (mL + 11) + rm.locals ≤ R.locals) (hcat : Nat.ble (rest.map fun v => v.category).sum 8 = true)
    (hct : Ct l ω y rm mL 2 [va, vb] M (some r) Mf) (kk : X ω κ (pc + 3) lv (r :: rest) Mf) : X ω κ pc lv (vb :: va :: rest) M :=
  x_callSN (As := [va, vb]) h hd hlk hstt hrm rfl rfl hcat hct kk
theorem x_V2v {va vb : Value} (h : xOk ω κ l cc nL own R) (hd : decode cc pc = .ok (.invokevirtual idx, 3)) (hlk : Cond.methodLink own idx y ∈ xtbl) (hin : Cond.instanceMethod y ∈ xtbl) (hse : Cond.selects y.cls y y ∈ xtbl) (hs : (xsh ω)[k]? = some (.inr (.inl (ci, fs)))) (hcl : (xcl[ci]?).map (fun q => q.1) = some y.cls) (hrm : rm.frames + 1 ≤ R.frames ∧ 8 + (mL + 11) + rm.locals ≤ R.locals) (hcat : Nat.ble (rest.map fun v => v.category).sum 8 = true)
    (hct : Ct l ω y rm mL 2 (.ref (xad ω k) :: [va, vb]) M none Mf) (kk : X ω κ (pc + 3) lv rest Mf) : X ω κ pc lv (vb :: va :: .ref (xad ω k) :: rest) M :=
  x_callV (As := [va, vb]) h hd hlk hin hse hs hcl hrm rfl rfl hcat hct kk
theorem x_S2v {va vb : Value} (h : xOk ω κ l cc nL own R) (hd : decode cc pc = .ok (.invokestatic idx, 3)) (hlk : Cond.methodLink own idx y ∈ xtbl) (hstt : Cond.static y ∈ xtbl) (hrm : rm.frames + 1 ≤ R.frames ∧ 8 + (mL + 11) + rm.locals ≤ R.locals) (hcat : Nat.ble (rest.map fun v => v.category).sum 8 = true)
    (hct : Ct l ω y rm mL 2 [va, vb] M none Mf) (kk : X ω κ (pc + 3) lv rest Mf) : X ω κ pc lv (vb :: va :: rest) M :=
  x_callS (As := [va, vb]) h hd hlk hstt hrm rfl rfl hcat hct kk
theorem x_N2v {va vb : Value} (h : xOk ω κ l cc nL own R) (hd : decode cc pc = .ok (.invokestatic idx, 3)) (hlk : Cond.methodLinkNest own idx y "StrangerRopes" ∈ lw_tbl) (hstt : Cond.static y ∈ xtbl) (hrm : rm.frames + 1 ≤ R.frames ∧ 8 + (mL + 11) + rm.locals ≤ R.locals) (hcat : Nat.ble (rest.map fun v => v.category).sum 8 = true)
    (hct : Ct l ω y rm mL 2 [va, vb] M none Mf) (kk : X ω κ (pc + 3) lv rest Mf) : X ω κ pc lv (vb :: va :: rest) M :=
  x_callSN (As := [va, vb]) h hd hlk hstt hrm rfl rfl hcat hct kk
theorem x_V3i {va vb vc : Value} {r : Value} (h : xOk ω κ l cc nL own R) (hd : decode cc pc = .ok (.invokevirtual idx, 3)) (hlk : Cond.methodLink own idx y ∈ xtbl) (hin : Cond.instanceMethod y ∈ xtbl) (hse : Cond.selects y.cls y y ∈ xtbl) (hs : (xsh ω)[k]? = some (.inr (.inl (ci, fs)))) (hcl : (xcl[ci]?).map (fun q => q.1) = some y.cls) (hrm : rm.frames + 1 ≤ R.frames ∧ 8 + (mL + 11) + rm.locals ≤ R.locals) (hcat : Nat.ble (rest.map fun v => v.category).sum 8 = true)
    (hct : Ct l ω y rm mL 3 (.ref (xad ω k) :: [va, vb, vc]) M (some r) Mf) (kk : X ω κ (pc + 3) lv (r :: rest) Mf) : X ω κ pc lv (vc :: vb :: va :: .ref (xad ω k) :: rest) M :=
  x_callV (As := [va, vb, vc]) h hd hlk hin hse hs hcl hrm rfl rfl hcat hct kk
theorem x_S3i {va vb vc : Value} {r : Value} (h : xOk ω κ l cc nL own R) (hd : decode cc pc = .ok (.invokestatic idx, 3)) (hlk : Cond.methodLink own idx y ∈ xtbl) (hstt : Cond.static y ∈ xtbl) (hrm : rm.frames + 1 ≤ R.frames ∧ 8 + (mL + 11) + rm.locals ≤ R.locals) (hcat : Nat.ble (rest.map fun v => v.category).sum 8 = true)
    (hct : Ct l ω y rm mL 3 [va, vb, vc] M (some r) Mf) (kk : X ω κ (pc + 3) lv (r :: rest) Mf) : X ω κ pc lv (vc :: vb :: va :: rest) M :=
  x_callS (As := [va, vb, vc]) h hd hlk hstt hrm rfl rfl hcat hct kk
theorem x_N3i {va vb vc : Value} {r : Value} (h : xOk ω κ l cc nL own R) (hd : decode cc pc = .ok (.invokestatic idx, 3)) (hlk : Cond.methodLinkNest own idx y "StrangerRopes" ∈ lw_tbl) (hstt : Cond.static y ∈ xtbl) (hrm : rm.frames + 1 ≤ R.frames ∧ 8 + (mL + 11) + rm.locals ≤ R.locals) (hcat : Nat.ble (rest.map fun v => v.category).sum 8 = true)
    (hct : Ct l ω y rm mL 3 [va, vb, vc] M (some r) Mf) (kk : X ω κ (pc + 3) lv (r :: rest) Mf) : X ω κ pc lv (vc :: vb :: va :: rest) M :=
  x_callSN (As := [va, vb, vc]) h hd hlk hstt hrm rfl rfl hcat hct kk
theorem x_V3v {va vb vc : Value} (h : xOk ω κ l cc nL own R) (hd : decode cc pc = .ok (.invokevirtual idx, 3)) (hlk : Cond.methodLink own idx y ∈ xtbl) (hin : Cond.instanceMethod y ∈ xtbl) (hse : Cond.selects y.cls y y ∈ xtbl) (hs : (xsh ω)[k]? = some (.inr (.inl (ci, fs)))) (hcl : (xcl[ci]?).map (fun q => q.1) = some y.cls) (hrm : rm.frames + 1 ≤ R.frames ∧ 8 + (mL + 11) + rm.locals ≤ R.locals) (hcat : Nat.ble (rest.map fun v => v.category).sum 8 = true)
    (hct : Ct l ω y rm mL 3 (.ref (xad ω k) :: [va, vb, vc]) M none Mf) (kk : X ω κ (pc + 3) lv rest Mf) : X ω κ pc lv (vc :: vb :: va :: .ref (xad ω k) :: rest) M :=
  x_callV (As := [va, vb, vc]) h hd hlk hin hse hs hcl hrm rfl rfl hcat hct kk
theorem x_S3v {va vb vc : Value} (h : xOk ω κ l cc nL own R) (hd : decode cc pc = .ok (.invokestatic idx, 3)) (hlk : Cond.methodLink own idx y ∈ xtbl) (hstt : Cond.static y ∈ xtbl) (hrm : rm.frames + 1 ≤ R.frames ∧ 8 + (mL + 11) + rm.locals ≤ R.locals) (hcat : Nat.ble (rest.map fun v => v.category).sum 8 = true)
    (hct : Ct l ω y rm mL 3 [va, vb, vc] M none Mf) (kk : X ω κ (pc + 3) lv rest Mf) : X ω κ pc lv (vc :: vb :: va :: rest) M :=
  x_callS (As := [va, vb, vc]) h hd hlk hstt hrm rfl rfl hcat hct kk
theorem x_N3v {va vb vc : Value} (h : xOk ω κ l cc nL own R) (hd : decode cc pc = .ok (.invokestatic idx, 3)) (hlk : Cond.methodLinkNest own idx y "StrangerRopes" ∈ lw_tbl) (hstt : Cond.static y ∈ xtbl) (hrm : rm.frames + 1 ≤ R.frames ∧ 8 + (mL + 11) + rm.locals ≤ R.locals) (hcat : Nat.ble (rest.map fun v => v.category).sum 8 = true)
    (hct : Ct l ω y rm mL 3 [va, vb, vc] M none Mf) (kk : X ω κ (pc + 3) lv rest Mf) : X ω κ pc lv (vc :: vb :: va :: rest) M :=
  x_callSN (As := [va, vb, vc]) h hd hlk hstt hrm rfl rfl hcat hct kk
theorem x_V4i {va vb vc vd : Value} {r : Value} (h : xOk ω κ l cc nL own R) (hd : decode cc pc = .ok (.invokevirtual idx, 3)) (hlk : Cond.methodLink own idx y ∈ xtbl) (hin : Cond.instanceMethod y ∈ xtbl) (hse : Cond.selects y.cls y y ∈ xtbl) (hs : (xsh ω)[k]? = some (.inr (.inl (ci, fs)))) (hcl : (xcl[ci]?).map (fun q => q.1) = some y.cls) (hrm : rm.frames + 1 ≤ R.frames ∧ 8 + (mL + 11) + rm.locals ≤ R.locals) (hcat : Nat.ble (rest.map fun v => v.category).sum 8 = true)
    (hct : Ct l ω y rm mL 4 (.ref (xad ω k) :: [va, vb, vc, vd]) M (some r) Mf) (kk : X ω κ (pc + 3) lv (r :: rest) Mf) : X ω κ pc lv (vd :: vc :: vb :: va :: .ref (xad ω k) :: rest) M :=
  x_callV (As := [va, vb, vc, vd]) h hd hlk hin hse hs hcl hrm rfl rfl hcat hct kk
theorem x_S4i {va vb vc vd : Value} {r : Value} (h : xOk ω κ l cc nL own R) (hd : decode cc pc = .ok (.invokestatic idx, 3)) (hlk : Cond.methodLink own idx y ∈ xtbl) (hstt : Cond.static y ∈ xtbl) (hrm : rm.frames + 1 ≤ R.frames ∧ 8 + (mL + 11) + rm.locals ≤ R.locals) (hcat : Nat.ble (rest.map fun v => v.category).sum 8 = true)
    (hct : Ct l ω y rm mL 4 [va, vb, vc, vd] M (some r) Mf) (kk : X ω κ (pc + 3) lv (r :: rest) Mf) : X ω κ pc lv (vd :: vc :: vb :: va :: rest) M :=
  x_callS (As := [va, vb, vc, vd]) h hd hlk hstt hrm rfl rfl hcat hct kk
theorem x_N4i {va vb vc vd : Value} {r : Value} (h : xOk ω κ l cc nL own R) (hd : decode cc pc = .ok (.invokestatic idx, 3)) (hlk : Cond.methodLinkNest own idx y "StrangerRopes" ∈ lw_tbl) (hstt : Cond.static y ∈ xtbl) (hrm : rm.frames + 1 ≤ R.frames ∧ 8 + (mL + 11) + rm.locals ≤ R.locals) (hcat : Nat.ble (rest.map fun v => v.category).sum 8 = true)
    (hct : Ct l ω y rm mL 4 [va, vb, vc, vd] M (some r) Mf) (kk : X ω κ (pc + 3) lv (r :: rest) Mf) : X ω κ pc lv (vd :: vc :: vb :: va :: rest) M :=
  x_callSN (As := [va, vb, vc, vd]) h hd hlk hstt hrm rfl rfl hcat hct kk
theorem x_V4v {va vb vc vd : Value} (h : xOk ω κ l cc nL own R) (hd : decode cc pc = .ok (.invokevirtual idx, 3)) (hlk : Cond.methodLink own idx y ∈ xtbl) (hin : Cond.instanceMethod y ∈ xtbl) (hse : Cond.selects y.cls y y ∈ xtbl) (hs : (xsh ω)[k]? = some (.inr (.inl (ci, fs)))) (hcl : (xcl[ci]?).map (fun q => q.1) = some y.cls) (hrm : rm.frames + 1 ≤ R.frames ∧ 8 + (mL + 11) + rm.locals ≤ R.locals) (hcat : Nat.ble (rest.map fun v => v.category).sum 8 = true)
    (hct : Ct l ω y rm mL 4 (.ref (xad ω k) :: [va, vb, vc, vd]) M none Mf) (kk : X ω κ (pc + 3) lv rest Mf) : X ω κ pc lv (vd :: vc :: vb :: va :: .ref (xad ω k) :: rest) M :=
  x_callV (As := [va, vb, vc, vd]) h hd hlk hin hse hs hcl hrm rfl rfl hcat hct kk
theorem x_S4v {va vb vc vd : Value} (h : xOk ω κ l cc nL own R) (hd : decode cc pc = .ok (.invokestatic idx, 3)) (hlk : Cond.methodLink own idx y ∈ xtbl) (hstt : Cond.static y ∈ xtbl) (hrm : rm.frames + 1 ≤ R.frames ∧ 8 + (mL + 11) + rm.locals ≤ R.locals) (hcat : Nat.ble (rest.map fun v => v.category).sum 8 = true)
    (hct : Ct l ω y rm mL 4 [va, vb, vc, vd] M none Mf) (kk : X ω κ (pc + 3) lv rest Mf) : X ω κ pc lv (vd :: vc :: vb :: va :: rest) M :=
  x_callS (As := [va, vb, vc, vd]) h hd hlk hstt hrm rfl rfl hcat hct kk
theorem x_N4v {va vb vc vd : Value} (h : xOk ω κ l cc nL own R) (hd : decode cc pc = .ok (.invokestatic idx, 3)) (hlk : Cond.methodLinkNest own idx y "StrangerRopes" ∈ lw_tbl) (hstt : Cond.static y ∈ xtbl) (hrm : rm.frames + 1 ≤ R.frames ∧ 8 + (mL + 11) + rm.locals ≤ R.locals) (hcat : Nat.ble (rest.map fun v => v.category).sum 8 = true)
    (hct : Ct l ω y rm mL 4 [va, vb, vc, vd] M none Mf) (kk : X ω κ (pc + 3) lv rest Mf) : X ω κ pc lv (vd :: vc :: vb :: va :: rest) M :=
  x_callSN (As := [va, vb, vc, vd]) h hd hlk hstt hrm rfl rfl hcat hct kk
theorem x_V5i {va vb vc vd ve : Value} {r : Value} (h : xOk ω κ l cc nL own R) (hd : decode cc pc = .ok (.invokevirtual idx, 3)) (hlk : Cond.methodLink own idx y ∈ xtbl) (hin : Cond.instanceMethod y ∈ xtbl) (hse : Cond.selects y.cls y y ∈ xtbl) (hs : (xsh ω)[k]? = some (.inr (.inl (ci, fs)))) (hcl : (xcl[ci]?).map (fun q => q.1) = some y.cls) (hrm : rm.frames + 1 ≤ R.frames ∧ 8 + (mL + 11) + rm.locals ≤ R.locals) (hcat : Nat.ble (rest.map fun v => v.category).sum 8 = true)
    (hct : Ct l ω y rm mL 5 (.ref (xad ω k) :: [va, vb, vc, vd, ve]) M (some r) Mf) (kk : X ω κ (pc + 3) lv (r :: rest) Mf) : X ω κ pc lv (ve :: vd :: vc :: vb :: va :: .ref (xad ω k) :: rest) M :=
  x_callV (As := [va, vb, vc, vd, ve]) h hd hlk hin hse hs hcl hrm rfl rfl hcat hct kk
theorem x_S5i {va vb vc vd ve : Value} {r : Value} (h : xOk ω κ l cc nL own R) (hd : decode cc pc = .ok (.invokestatic idx, 3)) (hlk : Cond.methodLink own idx y ∈ xtbl) (hstt : Cond.static y ∈ xtbl) (hrm : rm.frames + 1 ≤ R.frames ∧ 8 + (mL + 11) + rm.locals ≤ R.locals) (hcat : Nat.ble (rest.map fun v => v.category).sum 8 = true)
    (hct : Ct l ω y rm mL 5 [va, vb, vc, vd, ve] M (some r) Mf) (kk : X ω κ (pc + 3) lv (r :: rest) Mf) : X ω κ pc lv (ve :: vd :: vc :: vb :: va :: rest) M :=
  x_callS (As := [va, vb, vc, vd, ve]) h hd hlk hstt hrm rfl rfl hcat hct kk
theorem x_N5i {va vb vc vd ve : Value} {r : Value} (h : xOk ω κ l cc nL own R) (hd : decode cc pc = .ok (.invokestatic idx, 3)) (hlk : Cond.methodLinkNest own idx y "StrangerRopes" ∈ lw_tbl) (hstt : Cond.static y ∈ xtbl) (hrm : rm.frames + 1 ≤ R.frames ∧ 8 + (mL + 11) + rm.locals ≤ R.locals) (hcat : Nat.ble (rest.map fun v => v.category).sum 8 = true)
    (hct : Ct l ω y rm mL 5 [va, vb, vc, vd, ve] M (some r) Mf) (kk : X ω κ (pc + 3) lv (r :: rest) Mf) : X ω κ pc lv (ve :: vd :: vc :: vb :: va :: rest) M :=
  x_callSN (As := [va, vb, vc, vd, ve]) h hd hlk hstt hrm rfl rfl hcat hct kk
theorem x_V5v {va vb vc vd ve : Value} (h : xOk ω κ l cc nL own R) (hd : decode cc pc = .ok (.invokevirtual idx, 3)) (hlk : Cond.methodLink own idx y ∈ xtbl) (hin : Cond.instanceMethod y ∈ xtbl) (hse : Cond.selects y.cls y y ∈ xtbl) (hs : (xsh ω)[k]? = some (.inr (.inl (ci, fs)))) (hcl : (xcl[ci]?).map (fun q => q.1) = some y.cls) (hrm : rm.frames + 1 ≤ R.frames ∧ 8 + (mL + 11) + rm.locals ≤ R.locals) (hcat : Nat.ble (rest.map fun v => v.category).sum 8 = true)
    (hct : Ct l ω y rm mL 5 (.ref (xad ω k) :: [va, vb, vc, vd, ve]) M none Mf) (kk : X ω κ (pc + 3) lv rest Mf) : X ω κ pc lv (ve :: vd :: vc :: vb :: va :: .ref (xad ω k) :: rest) M :=
  x_callV (As := [va, vb, vc, vd, ve]) h hd hlk hin hse hs hcl hrm rfl rfl hcat hct kk
theorem x_S5v {va vb vc vd ve : Value} (h : xOk ω κ l cc nL own R) (hd : decode cc pc = .ok (.invokestatic idx, 3)) (hlk : Cond.methodLink own idx y ∈ xtbl) (hstt : Cond.static y ∈ xtbl) (hrm : rm.frames + 1 ≤ R.frames ∧ 8 + (mL + 11) + rm.locals ≤ R.locals) (hcat : Nat.ble (rest.map fun v => v.category).sum 8 = true)
    (hct : Ct l ω y rm mL 5 [va, vb, vc, vd, ve] M none Mf) (kk : X ω κ (pc + 3) lv rest Mf) : X ω κ pc lv (ve :: vd :: vc :: vb :: va :: rest) M :=
  x_callS (As := [va, vb, vc, vd, ve]) h hd hlk hstt hrm rfl rfl hcat hct kk
theorem x_N5v {va vb vc vd ve : Value} (h : xOk ω κ l cc nL own R) (hd : decode cc pc = .ok (.invokestatic idx, 3)) (hlk : Cond.methodLinkNest own idx y "StrangerRopes" ∈ lw_tbl) (hstt : Cond.static y ∈ xtbl) (hrm : rm.frames + 1 ≤ R.frames ∧ 8 + (mL + 11) + rm.locals ≤ R.locals) (hcat : Nat.ble (rest.map fun v => v.category).sum 8 = true)
    (hct : Ct l ω y rm mL 5 [va, vb, vc, vd, ve] M none Mf) (kk : X ω κ (pc + 3) lv rest Mf) : X ω κ pc lv (ve :: vd :: vc :: vb :: va :: rest) M :=
  x_callSN (As := [va, vb, vc, vd, ve]) h hd hlk hstt hrm rfl rfl hcat hct kk
theorem x_same {st : List Value} {lv' : List (Option Value)} {st' : List Value} {M' : xMem} (hX : X ω κ pc lv' st' M') (hl : lv = lv') (hst : st = st') (hM : M = M') : X ω κ pc lv st M := by subst hl hst hM; exact hX
theorem x_max {a b : Int} (h : xOk ω κ l cc nL own R) (hd : decode cc pc = .ok (.invokestatic idx, 3)) (hlk : Cond.methodLink own idx yJ9_max_7cf53 ∈ xtbl) (hcat : Nat.ble (rest.map fun v => v.category).sum 8 = true) (hrm : 1 ≤ R.frames ∧ 21 ≤ R.locals) (ha : inR a) (hb : inR b) (kk : X ω κ (pc + 3) lv (.int (iI (max a b)) :: rest) M) : X ω κ pc lv (.int (iI b) :: .int (iI a) :: rest) M := by
  intro hR H locs ls hP hS hl
  have hk := Nat.le_of_ble_eq_true hcat
  have e : (if iI a < iI b then iI b else iI a) = iI (max a b) := by
    by_cases q : a < b
    · rw [if_pos ((iI_lt ha hb).mpr q), Int.max_eq_right (by omega)]
    · rw [if_neg (fun z => q ((iI_lt ha hb).mp z)), Int.max_eq_left (by omega)]
  refine va_mmax h.1 h.2.1 hl.1.symm h.2.2.2.1 (h.2.2.2.2.1 _ hlk) (h.2.2.2.2.1 _ m_st_J9_max_7cf53) (h.2.2.2.2.1 _ m_inMath) (h.2.2.2.2.1 _ m_cd_J9_max_7cf53) (by rw [h.2.2.2.2.2.2.2.1]; exact hrm.1) (by rw [h.2.2.2.2.2.2.2.1]; omega) (Nat.zero_le _) (Nat.zero_le _) hd ?_
  rw [e]
  exact kk hR H locs ls hP hS hl
theorem x_min {a b : Int} (h : xOk ω κ l cc nL own R) (hd : decode cc pc = .ok (.invokestatic idx, 3)) (hlk : Cond.methodLink own idx yJ9_min_7cf53 ∈ xtbl) (hcat : Nat.ble (rest.map fun v => v.category).sum 8 = true) (hrm : 1 ≤ R.frames ∧ 21 ≤ R.locals) (ha : inR a) (hb : inR b) (kk : X ω κ (pc + 3) lv (.int (iI (min a b)) :: rest) M) : X ω κ pc lv (.int (iI b) :: .int (iI a) :: rest) M := by
  intro hR H locs ls hP hS hl
  have hk := Nat.le_of_ble_eq_true hcat
  have e : (if iI b < iI a then iI b else iI a) = iI (min a b) := by
    by_cases q : b < a
    · rw [if_pos ((iI_lt hb ha).mpr q), Int.min_eq_right (by omega)]
    · rw [if_neg (fun z => q ((iI_lt hb ha).mp z)), Int.min_eq_left (by omega)]
  refine va_mmin h.1 h.2.1 hl.1.symm h.2.2.2.1 (h.2.2.2.2.1 _ hlk) (h.2.2.2.2.1 _ m_st_J9_min_7cf53) (h.2.2.2.2.1 _ m_inMath) (h.2.2.2.2.1 _ m_cd_J9_min_7cf53) (by rw [h.2.2.2.2.2.2.2.1]; exact hrm.1) (by rw [h.2.2.2.2.2.2.2.1]; omega) (Nat.zero_le _) (Nat.zero_le _) hd ?_
  rw [e]
  exact kk hR H locs ls hP hS hl
def rcp (f g : Int → Int) (sp dp n : Int) : Int → Int := fun j => if dp ≤ j ∧ j < dp + n then f (sp + (j - dp)) else g j
/-- System.arraycopy of int rows -/
theorem x_copy {sp dp n : Int} {k0 k1 n0 n1 : Nat} (h : xOk ω κ l cc nL own R) (hd : decode cc pc = .ok (.invokestatic idx, 3)) (hlk : Cond.methodLink own idx arraycopyName ∈ xtbl) (hs0 : (xsh ω)[k0]? = some (.inl n0)) (hs1 : (xsh ω)[k1]? = some (.inl n1)) (hr : 0 ≤ sp ∧ 0 ≤ dp ∧ 0 ≤ n ∧ sp + n ≤ (n0 : Int) ∧ dp + n ≤ (n1 : Int) ∧ n0 ≤ 2147483647 ∧ n1 ≤ 2147483647) (hcat : Nat.ble (rest.map fun v => v.category).sum 8 = true) (hrm : 1 ≤ R.frames ∧ 8 + (nativeFrameWords "java/lang/System" "arraycopy" 5 + 11) ≤ R.locals)
    (kk : X ω κ (pc + 3) lv rest (upr M k1 (rcp (M k0) (M k1) sp dp n))) : X ω κ pc lv (.int (iI n) :: .int (iI dp) :: .ref (xad ω k1) :: .int (iI sp) :: .ref (xad ω k0) :: rest) M := by
  intro hR H locs ls hP hS hl
  have hk := Nat.le_of_ble_eq_true hcat
  obtain ⟨h1, h2, h3, h4, h5, h6, h7⟩ := hr
  obtain ⟨sN, rfl⟩ : ∃ j : Nat, sp = (j : Int) := ⟨sp.toNat, by omega⟩
  obtain ⟨dN, rfl⟩ : ∃ j : Nat, dp = (j : Int) := ⟨dp.toNat, by omega⟩
  obtain ⟨nN, rfl⟩ : ∃ j : Nat, n = (j : Int) := ⟨n.toNat, by omega⟩
  have nn : ∀ j : Nat, j ≤ 2147483647 → ¬ iI (j : Int) < 0 := fun j hj => by
    rw [show (0 : Int32) = iI 0 from rfl, iI_lt ⟨by omega, by omega⟩ ⟨by omega, by omega⟩]
    omega
  refine va_copyi h.1 h.2.1 hl.1.symm h.2.2.2.1 (h.2.2.2.2.1 _ hlk) (h.2.2.2.2.1 _ m_nat) (h.2.2.2.2.1 _ m_stac) (h.2.2.2.2.1 _ m_inSys) h.2.2.2.2.2.1 hP (xw_D h.2.2.2.2.2.2.1 M) hS k0 k1 0 0 (xw_at hs0) (xw_at hs1) (ty := .int) rfl rfl rfl (nn sN (by omega)) (nn dN (by omega)) (nn nN (by omega)) ?_ ?_ (fun _ _ => rfl) (by rw [h.2.2.2.2.2.2.2.1]; exact hrm.1) (by rw [h.2.2.2.2.2.2.2.1]; omega) hd (fun H1 locs1 hP1 _ hS1 => ?_)
  · rw [iI_nat (by omega), iI_nat (by omega)]; omega
  · rw [iI_nat (by omega), iI_nat (by omega)]; omega
  · rw [iI_nat (by omega), iI_nat (by omega), iI_nat (by omega)] at hP1
    have e : va_cpy (fun i : Nat => iI (M k0 (i : Int))) (fun i : Nat => iI (M k1 (i : Int))) sN dN nN = (fun i : Nat => iI (rcp (M k0) (M k1) (sN : Int) (dN : Int) (nN : Int) (i : Int))) := by
      funext i
      unfold va_cpy rcp
      by_cases q : dN ≤ i ∧ i < dN + nN
      · rw [if_pos q, if_pos (by omega), show (sN : Int) + ((i : Int) - (dN : Int)) = ((sN + (i - dN) : Nat) : Int) by omega]
      · rw [if_neg q, if_neg (by omega)]
    rw [e] at hP1
    refine kk (upr_R hR fun j => ?_) H1 locs1 ls ?_ hS1 hl
    · unfold rcp
      split
      · exact hR k0 _
      · exact hR k1 _
    · rw [← xw_set (M := M) (r := rcp (M k0) (M k1) (sN : Int) (dN : Int) (nN : Int)) hs1]
      exact hP1
end XV
theorem loop_up (P : Nat → Prop) (n : Nat) (he : P n) (hs : ∀ k, k < n → P (k + 1) → P k) : P 0 := by
  have : ∀ d k, k + d = n → P k := by
    intro d
    induction d with
    | zero => intro k hk; rw [show k = n by omega]; exact he
    | succ d ih => intro k hk; exact hs k (by omega) (ih (k + 1) (by omega))
  exact this n 0 (by omega)
theorem first_or (C : Nat → Prop) (n : Nat) : (∃ j, j < n ∧ C j ∧ ∀ k, k < j → ¬ C k) ∨ (∀ k, k < n → ¬ C k) := by
  induction n with
  | zero => exact Or.inr fun k hk => absurd hk (Nat.not_lt_zero k)
  | succ n ih =>
    rcases ih with ⟨j, h1, h2, h3⟩ | h
    · exact Or.inl ⟨j, by omega, h2, h3⟩
    · by_cases hn : C n
      · exact Or.inl ⟨n, by omega, hn, h⟩
      · exact Or.inr fun k hk => by
          by_cases e : k = n
          · rw [e]; exact hn
          · exact h k (by omega)
/-- n rounds of g from s: round k takes k and what the rounds before came to -/
def xfo {σ : Type} (g : Int → σ → σ) (s : σ) : Nat → σ
  | 0 => s
  | n + 1 => g (n : Int) (xfo g s n)

abbrev foP (b r : Nat) : List (Option Nat) := [some r, none, none, some (b + 1), some (b + 2), some (b + 3), some (b + 4), some (b + 5), some (b + 6), some (b + 7), some (b + 8), some (b + 9), none, none]
abbrev foR (r : Nat) : List (Option Nat) := [some (r + 1), some (r + 2), some (r + 3), some (r + 4)]
abbrev foO : List (Option Nat) := [some 1, some 11, some 41, none, some 6, some 21, some 42, none, none, some 31, some 43, some 47, some 49, some 51, some 55]
def clS : List xS := [.inr (.inl (6, foO)), .inr (.inl (3, foR 1)), .inl 100, .inl 100, .inl 100, .inl 100, .inr (.inl (3, foR 6)), .inl 100, .inl 100, .inl 100, .inl 100, .inr (.inl (1, foP 11 1)), .inl 8, .inl 8, .inl 8, .inl 8, .inl 8, .inl 8, .inl 8, .inl 8, .inl 8, .inr (.inl (1, foP 21 6)), .inl 8, .inl 8, .inl 8, .inl 8, .inl 8, .inl 8, .inl 8, .inl 8, .inl 8, .inr (.inl (1, foP 31 1)), .inl 8, .inl 8, .inl 8, .inl 8, .inl 8, .inl 8, .inl 8, .inl 8, .inl 8, .inl 10, .inl 10, .inr (.inl (0, [some 44, some 45, some 46, none])), .inl 256, .inl 256, .inl 64, .inr (.inl (5, [some 48, none])), .inl 120, .inr (.inl (2, [some 47, none, none, none, none, some 50, none, none])), .inl 480, .inr (.inl (4, [some 52, some 53, some 54])), .inl 4, .inl 4, .inl 160, .inl 7]
abbrev pI (b r : Nat) : Prop := (b = 11 ∧ r = 1) ∨ (b = 21 ∧ r = 6) ∨ (b = 31 ∧ r = 1)
abbrev rI (r : Nat) : Prop := r = 1 ∨ r = 6
theorem pI_r {b r : Nat} (h : pI b r) : rI r := by unfold pI at h; unfold rI; omega
section SH
variable {ω : xO} {b r : Nat}
theorem sPe (hc : xsh ω = clS) (hb : pI b r) : (xsh ω)[b]? = some (.inr (.inl (1, foP b r))) := by rw [hc]; rcases hb with ⟨rfl, rfl⟩ | ⟨rfl, rfl⟩ | ⟨rfl, rfl⟩ <;> rfl
theorem sP1 (hc : xsh ω = clS) (hb : pI b r) : (xsh ω)[b + 1]? = some (.inl 8) := by rw [hc]; rcases hb with ⟨rfl, rfl⟩ | ⟨rfl, rfl⟩ | ⟨rfl, rfl⟩ <;> rfl
theorem sP2 (hc : xsh ω = clS) (hb : pI b r) : (xsh ω)[b + 2]? = some (.inl 8) := by rw [hc]; rcases hb with ⟨rfl, rfl⟩ | ⟨rfl, rfl⟩ | ⟨rfl, rfl⟩ <;> rfl
theorem sP3 (hc : xsh ω = clS) (hb : pI b r) : (xsh ω)[b + 3]? = some (.inl 8) := by rw [hc]; rcases hb with ⟨rfl, rfl⟩ | ⟨rfl, rfl⟩ | ⟨rfl, rfl⟩ <;> rfl
theorem sP4 (hc : xsh ω = clS) (hb : pI b r) : (xsh ω)[b + 4]? = some (.inl 8) := by rw [hc]; rcases hb with ⟨rfl, rfl⟩ | ⟨rfl, rfl⟩ | ⟨rfl, rfl⟩ <;> rfl
theorem sP5 (hc : xsh ω = clS) (hb : pI b r) : (xsh ω)[b + 5]? = some (.inl 8) := by rw [hc]; rcases hb with ⟨rfl, rfl⟩ | ⟨rfl, rfl⟩ | ⟨rfl, rfl⟩ <;> rfl
theorem sP6 (hc : xsh ω = clS) (hb : pI b r) : (xsh ω)[b + 6]? = some (.inl 8) := by rw [hc]; rcases hb with ⟨rfl, rfl⟩ | ⟨rfl, rfl⟩ | ⟨rfl, rfl⟩ <;> rfl
theorem sP7 (hc : xsh ω = clS) (hb : pI b r) : (xsh ω)[b + 7]? = some (.inl 8) := by rw [hc]; rcases hb with ⟨rfl, rfl⟩ | ⟨rfl, rfl⟩ | ⟨rfl, rfl⟩ <;> rfl
theorem sP8 (hc : xsh ω = clS) (hb : pI b r) : (xsh ω)[b + 8]? = some (.inl 8) := by rw [hc]; rcases hb with ⟨rfl, rfl⟩ | ⟨rfl, rfl⟩ | ⟨rfl, rfl⟩ <;> rfl
theorem sP9 (hc : xsh ω = clS) (hb : pI b r) : (xsh ω)[b + 9]? = some (.inl 8) := by rw [hc]; rcases hb with ⟨rfl, rfl⟩ | ⟨rfl, rfl⟩ | ⟨rfl, rfl⟩ <;> rfl
theorem sRd (hc : xsh ω = clS) (hr : rI r) : (xsh ω)[r]? = some (.inr (.inl (3, foR r))) := by rw [hc]; rcases hr with rfl | rfl <;> rfl
theorem sR1 (hc : xsh ω = clS) (hr : rI r) : (xsh ω)[r + 1]? = some (.inl 100) := by rw [hc]; rcases hr with rfl | rfl <;> rfl
theorem sR2 (hc : xsh ω = clS) (hr : rI r) : (xsh ω)[r + 2]? = some (.inl 100) := by rw [hc]; rcases hr with rfl | rfl <;> rfl
theorem sR3 (hc : xsh ω = clS) (hr : rI r) : (xsh ω)[r + 3]? = some (.inl 100) := by rw [hc]; rcases hr with rfl | rfl <;> rfl
theorem sR4 (hc : xsh ω = clS) (hr : rI r) : (xsh ω)[r + 4]? = some (.inl 100) := by rw [hc]; rcases hr with rfl | rfl <;> rfl
theorem sC0 (hc : xsh ω = clS) : (xsh ω)[0]? = some (.inr (.inl (6, foO))) := by rw [hc]; rfl
theorem sC41 (hc : xsh ω = clS) : (xsh ω)[41]? = some (.inl 10) := by rw [hc]; rfl
theorem sC42 (hc : xsh ω = clS) : (xsh ω)[42]? = some (.inl 10) := by rw [hc]; rfl
theorem sC43 (hc : xsh ω = clS) : (xsh ω)[43]? = some (.inr (.inl (0, [some 44, some 45, some 46, none]))) := by rw [hc]; rfl
theorem sC44 (hc : xsh ω = clS) : (xsh ω)[44]? = some (.inl 256) := by rw [hc]; rfl
theorem sC45 (hc : xsh ω = clS) : (xsh ω)[45]? = some (.inl 256) := by rw [hc]; rfl
theorem sC46 (hc : xsh ω = clS) : (xsh ω)[46]? = some (.inl 64) := by rw [hc]; rfl
theorem sC47 (hc : xsh ω = clS) : (xsh ω)[47]? = some (.inr (.inl (5, [some 48, none]))) := by rw [hc]; rfl
theorem sC48 (hc : xsh ω = clS) : (xsh ω)[48]? = some (.inl 120) := by rw [hc]; rfl
theorem sC49 (hc : xsh ω = clS) : (xsh ω)[49]? = some (.inr (.inl (2, [some 47, none, none, none, none, some 50, none, none]))) := by rw [hc]; rfl
theorem sC50 (hc : xsh ω = clS) : (xsh ω)[50]? = some (.inl 480) := by rw [hc]; rfl
theorem sC51 (hc : xsh ω = clS) : (xsh ω)[51]? = some (.inr (.inl (4, [some 52, some 53, some 54]))) := by rw [hc]; rfl
theorem sC52 (hc : xsh ω = clS) : (xsh ω)[52]? = some (.inl 4) := by rw [hc]; rfl
theorem sC53 (hc : xsh ω = clS) : (xsh ω)[53]? = some (.inl 4) := by rw [hc]; rfl
theorem sC54 (hc : xsh ω = clS) : (xsh ω)[54]? = some (.inl 160) := by rw [hc]; rfl
theorem sC55 (hc : xsh ω = clS) : (xsh ω)[55]? = some (.inl 7) := by rw [hc]; rfl
end SH
abbrev foM : List (Option Nat) := [some 1, some 2, some 3, none, some 4, some 5, none, none, none, none, none, none, some 6, some 7, some 8, some 9, none, none, none, none, none, none, some 10, some 11, none, none, some 12, some 13, some 14, some 15]
def mdS (ks : Nat → Option Nat) : List xS := [.inr (.inl (7, foM)), .inl 177, .inl 177, .inl 177, .inl 8, .inl 100, .inl 177, .inl 256, .inl 256, .inl 120, .inr (.inr (7, ks)), .inl 480, .inl 4, .inl 4, .inl 160, .inl 40]
theorem sM0 {ω : xO} {ks : Nat → Option Nat} (hm : xsh ω = mdS ks) : (xsh ω)[0]? = some (.inr (.inl (7, foM))) := by rw [hm]; rfl
theorem sM1 {ω : xO} {ks : Nat → Option Nat} (hm : xsh ω = mdS ks) : (xsh ω)[1]? = some (.inl 177) := by rw [hm]; rfl
theorem sM2 {ω : xO} {ks : Nat → Option Nat} (hm : xsh ω = mdS ks) : (xsh ω)[2]? = some (.inl 177) := by rw [hm]; rfl
theorem sM3 {ω : xO} {ks : Nat → Option Nat} (hm : xsh ω = mdS ks) : (xsh ω)[3]? = some (.inl 177) := by rw [hm]; rfl
theorem sM4 {ω : xO} {ks : Nat → Option Nat} (hm : xsh ω = mdS ks) : (xsh ω)[4]? = some (.inl 8) := by rw [hm]; rfl
theorem sM5 {ω : xO} {ks : Nat → Option Nat} (hm : xsh ω = mdS ks) : (xsh ω)[5]? = some (.inl 100) := by rw [hm]; rfl
theorem sM6 {ω : xO} {ks : Nat → Option Nat} (hm : xsh ω = mdS ks) : (xsh ω)[6]? = some (.inl 177) := by rw [hm]; rfl
theorem sM7 {ω : xO} {ks : Nat → Option Nat} (hm : xsh ω = mdS ks) : (xsh ω)[7]? = some (.inl 256) := by rw [hm]; rfl
theorem sM8 {ω : xO} {ks : Nat → Option Nat} (hm : xsh ω = mdS ks) : (xsh ω)[8]? = some (.inl 256) := by rw [hm]; rfl
theorem sM9 {ω : xO} {ks : Nat → Option Nat} (hm : xsh ω = mdS ks) : (xsh ω)[9]? = some (.inl 120) := by rw [hm]; rfl
theorem sM10 {ω : xO} {ks : Nat → Option Nat} (hm : xsh ω = mdS ks) : (xsh ω)[10]? = some (.inr (.inr (7, ks))) := by rw [hm]; rfl
theorem sM11 {ω : xO} {ks : Nat → Option Nat} (hm : xsh ω = mdS ks) : (xsh ω)[11]? = some (.inl 480) := by rw [hm]; rfl
theorem sM12 {ω : xO} {ks : Nat → Option Nat} (hm : xsh ω = mdS ks) : (xsh ω)[12]? = some (.inl 4) := by rw [hm]; rfl
theorem sM13 {ω : xO} {ks : Nat → Option Nat} (hm : xsh ω = mdS ks) : (xsh ω)[13]? = some (.inl 4) := by rw [hm]; rfl
theorem sM14 {ω : xO} {ks : Nat → Option Nat} (hm : xsh ω = mdS ks) : (xsh ω)[14]? = some (.inl 160) := by rw [hm]; rfl
theorem sM15 {ω : xO} {ks : Nat → Option Nat} (hm : xsh ω = mdS ks) : (xsh ω)[15]? = some (.inl 40) := by rw [hm]; rfl
