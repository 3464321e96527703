
theorem zz_r4 : True := trivial
