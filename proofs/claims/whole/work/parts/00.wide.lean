/-! this claim is read over the whole library: the law's handlers need this law of it -/
noncomputable def wd_0 := @Stand.thenCaughtThrough
