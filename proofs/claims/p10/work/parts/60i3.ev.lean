/-! WHAT A TEXT'S NODES ARE WORTH, and the same read as code, a stack of values -/
noncomputable def zp_cd (cd : Nat → Int) : Nat → List Int → Prop
  | _, [] => True
  | p, c :: cs => cd p = c ∧ zp_cd cd (p + 1) cs
section ZE
variable {A R : Int → Int} {cd : Nat → Int} {f p : Nat} {st : List Int} {i x y : Int}
end ZE
