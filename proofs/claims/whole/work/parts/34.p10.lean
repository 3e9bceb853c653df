theorem zz_34 : True := trivial
