theorem zz_try : True := trivial
