/-! part 20 names a row that stands in the rest of the library; named here, the first pass of a round on a new machine is read over the whole of it at once -/
theorem wd_0 : True := (fun (_ : True) => trivial) (let _ := @Stand.multianewarray2F; trivial)
