/-! laws -/
section LAWSX
variable {R R' m x y w z : zM} {a p q S0 K n : Int} {f L L2 M M2 : Int → Int}
theorem LW_0 (L : Int → Int) : LW 0 L := ⟨by omega, fun k k0 k1 => by omega, fun j k j0 jk k1 => by omega⟩
end LAWSX
