/-! the constructors: rows that they make -/
def wOb : Cond := .code objectInit ⟨#[0xb1]⟩ 1 none
theorem m_ob : wOb ∈ xtbl := xtb (List.mem_of_getElem? (i := 116) (by decide +kernel)) (by decide +kernel)
theorem m_obi : Cond.instanceMethod objectInit ∈ xtbl := xtb (List.mem_of_getElem? (i := 115) (by decide +kernel)) (by decide +kernel)
theorem m_aci : Cond.arrayClass .int ∈ xtbl := xtb (List.mem_of_getElem? (i := 166) (by decide +kernel)) (by decide +kernel)
theorem ac_1 {D : va_G} {cl : List vw_C} {tys : List (ClassId × FieldType)} {s : State} {i j : Nat} {a c : ClassId} (hK : va_K D cl tys s) (hi : tys[i]? = some (a, .int)) (hj : tys[j]? = some (c, .int)) : a = c :=
  Option.some.inj ((show s.vm.findClass _ = some a from (hK.2 i _ hi).2).symm.trans (show s.vm.findClass _ = some c from (hK.2 j _ hj).2))
